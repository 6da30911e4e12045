section
/-! what each instruction is: rows and reader -/
theorem dc_BR_init_0 : decode prog_2_method_1_code 0 = .ok (.aload_n 0, 1) := by decide +kernel
theorem dc_BR_init_1 : decode prog_2_method_1_code 1 = .ok (.invokespecial 3, 3) := by decide +kernel
theorem dc_BR_init_4 : decode prog_2_method_1_code 4 = .ok (.aload_n 0, 1) := by decide +kernel
theorem dc_BR_init_5 : decode prog_2_method_1_code 5 = .ok (.sipush 160, 3) := by decide +kernel
theorem dc_BR_init_8 : decode prog_2_method_1_code 8 = .ok (.newarray .int, 2) := by decide +kernel
theorem dc_BR_init_10 : decode prog_2_method_1_code 10 = .ok (.putfield 9, 3) := by decide +kernel
theorem dc_BR_init_13 : decode prog_2_method_1_code 13 = .ok (.aload_n 0, 1) := by decide +kernel
theorem dc_BR_init_14 : decode prog_2_method_1_code 14 = .ok (.iconst 0, 1) := by decide +kernel
theorem dc_BR_init_15 : decode prog_2_method_1_code 15 = .ok (.putfield 15, 3) := by decide +kernel
theorem dc_BR_init_18 : decode prog_2_method_1_code 18 = .ok (.return_, 1) := by decide +kernel
theorem dc_BR_has_0 : decode prog_2_method_2_code 0 = .ok (.iload_n 1, 1) := by decide +kernel
theorem dc_BR_has_1 : decode prog_2_method_2_code 1 = .ok (.ifCond .lt 15, 3) := by decide +kernel
theorem dc_BR_has_4 : decode prog_2_method_2_code 4 = .ok (.iload_n 1, 1) := by decide +kernel
theorem dc_BR_has_5 : decode prog_2_method_2_code 5 = .ok (.aload_n 0, 1) := by decide +kernel
theorem dc_BR_has_6 : decode prog_2_method_2_code 6 = .ok (.getfield 15, 3) := by decide +kernel
theorem dc_BR_has_9 : decode prog_2_method_2_code 9 = .ok (.if_icmp .ge 7, 3) := by decide +kernel
theorem dc_BR_has_12 : decode prog_2_method_2_code 12 = .ok (.iconst 1, 1) := by decide +kernel
theorem dc_BR_has_13 : decode prog_2_method_2_code 13 = .ok (.goto 4, 3) := by decide +kernel
theorem dc_BR_has_16 : decode prog_2_method_2_code 16 = .ok (.iconst 0, 1) := by decide +kernel
theorem dc_BR_has_17 : decode prog_2_method_2_code 17 = .ok (.ireturn, 1) := by decide +kernel
theorem dc_BR_hashBetween_0 : decode prog_2_method_3_code 0 = .ok (.iconst 0, 1) := by decide +kernel
theorem dc_BR_hashBetween_1 : decode prog_2_method_3_code 1 = .ok (.istore_n 3, 1) := by decide +kernel
theorem dc_BR_hashBetween_2 : decode prog_2_method_3_code 2 = .ok (.iload_n 1, 1) := by decide +kernel
theorem dc_BR_hashBetween_3 : decode prog_2_method_3_code 3 = .ok (.istore 4, 2) := by decide +kernel
theorem dc_BR_hashBetween_5 : decode prog_2_method_3_code 5 = .ok (.iload 4, 2) := by decide +kernel
theorem dc_BR_hashBetween_7 : decode prog_2_method_3_code 7 = .ok (.iload_n 2, 1) := by decide +kernel
theorem dc_BR_hashBetween_8 : decode prog_2_method_3_code 8 = .ok (.if_icmp .ge 28, 3) := by decide +kernel
theorem dc_BR_hashBetween_11 : decode prog_2_method_3_code 11 = .ok (.sipush 263, 3) := by decide +kernel
theorem dc_BR_hashBetween_14 : decode prog_2_method_3_code 14 = .ok (.iload_n 3, 1) := by decide +kernel
theorem dc_BR_hashBetween_15 : decode prog_2_method_3_code 15 = .ok (.imul, 1) := by decide +kernel
theorem dc_BR_hashBetween_16 : decode prog_2_method_3_code 16 = .ok (.aload_n 0, 1) := by decide +kernel
theorem dc_BR_hashBetween_17 : decode prog_2_method_3_code 17 = .ok (.getfield 9, 3) := by decide +kernel
theorem dc_BR_hashBetween_20 : decode prog_2_method_3_code 20 = .ok (.iload 4, 2) := by decide +kernel
theorem dc_BR_hashBetween_22 : decode prog_2_method_3_code 22 = .ok (.iaload, 1) := by decide +kernel
theorem dc_BR_hashBetween_23 : decode prog_2_method_3_code 23 = .ok (.iadd, 1) := by decide +kernel
theorem dc_BR_hashBetween_24 : decode prog_2_method_3_code 24 = .ok (.iconst 1, 1) := by decide +kernel
theorem dc_BR_hashBetween_25 : decode prog_2_method_3_code 25 = .ok (.iadd, 1) := by decide +kernel
theorem dc_BR_hashBetween_26 : decode prog_2_method_3_code 26 = .ok (.ldc 19, 2) := by decide +kernel
theorem dc_BR_hashBetween_28 : decode prog_2_method_3_code 28 = .ok (.irem, 1) := by decide +kernel
theorem dc_BR_hashBetween_29 : decode prog_2_method_3_code 29 = .ok (.istore_n 3, 1) := by decide +kernel
theorem dc_BR_hashBetween_30 : decode prog_2_method_3_code 30 = .ok (.iinc 4 1, 3) := by decide +kernel
theorem dc_BR_hashBetween_33 : decode prog_2_method_3_code 33 = .ok (.goto (-28), 3) := by decide +kernel
theorem dc_BR_hashBetween_36 : decode prog_2_method_3_code 36 = .ok (.iload_n 3, 1) := by decide +kernel
theorem dc_BR_hashBetween_37 : decode prog_2_method_3_code 37 = .ok (.ireturn, 1) := by decide +kernel
theorem dc_BR_append_0 : decode prog_2_method_4_code 0 = .ok (.aload_n 0, 1) := by decide +kernel
theorem dc_BR_append_1 : decode prog_2_method_4_code 1 = .ok (.getfield 15, 3) := by decide +kernel
theorem dc_BR_append_4 : decode prog_2_method_4_code 4 = .ok (.aload_n 0, 1) := by decide +kernel
theorem dc_BR_append_5 : decode prog_2_method_4_code 5 = .ok (.getfield 9, 3) := by decide +kernel
theorem dc_BR_append_8 : decode prog_2_method_4_code 8 = .ok (.arraylength, 1) := by decide +kernel
theorem dc_BR_append_9 : decode prog_2_method_4_code 9 = .ok (.if_icmp .ge 23, 3) := by decide +kernel
theorem dc_BR_append_12 : decode prog_2_method_4_code 12 = .ok (.aload_n 0, 1) := by decide +kernel
theorem dc_BR_append_13 : decode prog_2_method_4_code 13 = .ok (.getfield 9, 3) := by decide +kernel
theorem dc_BR_append_16 : decode prog_2_method_4_code 16 = .ok (.aload_n 0, 1) := by decide +kernel
theorem dc_BR_append_17 : decode prog_2_method_4_code 17 = .ok (.getfield 15, 3) := by decide +kernel
theorem dc_BR_append_20 : decode prog_2_method_4_code 20 = .ok (.iload_n 1, 1) := by decide +kernel
theorem dc_BR_append_21 : decode prog_2_method_4_code 21 = .ok (.iastore, 1) := by decide +kernel
theorem dc_BR_append_22 : decode prog_2_method_4_code 22 = .ok (.aload_n 0, 1) := by decide +kernel
theorem dc_BR_append_23 : decode prog_2_method_4_code 23 = .ok (.dup, 1) := by decide +kernel
theorem dc_BR_append_24 : decode prog_2_method_4_code 24 = .ok (.getfield 15, 3) := by decide +kernel
theorem dc_BR_append_27 : decode prog_2_method_4_code 27 = .ok (.iconst 1, 1) := by decide +kernel
theorem dc_BR_append_28 : decode prog_2_method_4_code 28 = .ok (.iadd, 1) := by decide +kernel
theorem dc_BR_append_29 : decode prog_2_method_4_code 29 = .ok (.putfield 15, 3) := by decide +kernel
theorem dc_BR_append_32 : decode prog_2_method_4_code 32 = .ok (.aload_n 0, 1) := by decide +kernel
theorem dc_BR_append_33 : decode prog_2_method_4_code 33 = .ok (.getfield 15, 3) := by decide +kernel
theorem dc_BR_append_36 : decode prog_2_method_4_code 36 = .ok (.ireturn, 1) := by decide +kernel
theorem dc_BR_insertLength_0 : decode prog_2_method_5_code 0 = .ok (.aload_n 0, 1) := by decide +kernel
theorem dc_BR_insertLength_1 : decode prog_2_method_5_code 1 = .ok (.getfield 15, 3) := by decide +kernel
theorem dc_BR_insertLength_4 : decode prog_2_method_5_code 4 = .ok (.iload_n 1, 1) := by decide +kernel
theorem dc_BR_insertLength_5 : decode prog_2_method_5_code 5 = .ok (.isub, 1) := by decide +kernel
theorem dc_BR_insertLength_6 : decode prog_2_method_5_code 6 = .ok (.istore_n 2, 1) := by decide +kernel
theorem dc_BR_insertLength_7 : decode prog_2_method_5_code 7 = .ok (.iload_n 2, 1) := by decide +kernel
theorem dc_BR_insertLength_8 : decode prog_2_method_5_code 8 = .ok (.bipush 127, 2) := by decide +kernel
theorem dc_BR_insertLength_10 : decode prog_2_method_5_code 10 = .ok (.if_icmp .le 7, 3) := by decide +kernel
theorem dc_BR_insertLength_13 : decode prog_2_method_5_code 13 = .ok (.iconst 2, 1) := by decide +kernel
theorem dc_BR_insertLength_14 : decode prog_2_method_5_code 14 = .ok (.goto 4, 3) := by decide +kernel
theorem dc_BR_insertLength_17 : decode prog_2_method_5_code 17 = .ok (.iconst 1, 1) := by decide +kernel
theorem dc_BR_insertLength_18 : decode prog_2_method_5_code 18 = .ok (.istore_n 3, 1) := by decide +kernel
theorem dc_BR_insertLength_19 : decode prog_2_method_5_code 19 = .ok (.iload_n 1, 1) := by decide +kernel
theorem dc_BR_insertLength_20 : decode prog_2_method_5_code 20 = .ok (.ifCond .lt 21, 3) := by decide +kernel
theorem dc_BR_insertLength_23 : decode prog_2_method_5_code 23 = .ok (.iload_n 2, 1) := by decide +kernel
theorem dc_BR_insertLength_24 : decode prog_2_method_5_code 24 = .ok (.ifCond .lt 17, 3) := by decide +kernel
theorem dc_BR_insertLength_27 : decode prog_2_method_5_code 27 = .ok (.iload_n 3, 1) := by decide +kernel
theorem dc_BR_insertLength_28 : decode prog_2_method_5_code 28 = .ok (.aload_n 0, 1) := by decide +kernel
theorem dc_BR_insertLength_29 : decode prog_2_method_5_code 29 = .ok (.getfield 9, 3) := by decide +kernel
theorem dc_BR_insertLength_32 : decode prog_2_method_5_code 32 = .ok (.arraylength, 1) := by decide +kernel
theorem dc_BR_insertLength_33 : decode prog_2_method_5_code 33 = .ok (.aload_n 0, 1) := by decide +kernel
theorem dc_BR_insertLength_34 : decode prog_2_method_5_code 34 = .ok (.getfield 15, 3) := by decide +kernel
theorem dc_BR_insertLength_37 : decode prog_2_method_5_code 37 = .ok (.isub, 1) := by decide +kernel
theorem dc_BR_insertLength_38 : decode prog_2_method_5_code 38 = .ok (.if_icmp .le 4, 3) := by decide +kernel
theorem dc_BR_insertLength_41 : decode prog_2_method_5_code 41 = .ok (.return_, 1) := by decide +kernel
theorem dc_BR_insertLength_42 : decode prog_2_method_5_code 42 = .ok (.aload_n 0, 1) := by decide +kernel
theorem dc_BR_insertLength_43 : decode prog_2_method_5_code 43 = .ok (.getfield 15, 3) := by decide +kernel
theorem dc_BR_insertLength_46 : decode prog_2_method_5_code 46 = .ok (.iconst 1, 1) := by decide +kernel
theorem dc_BR_insertLength_47 : decode prog_2_method_5_code 47 = .ok (.isub, 1) := by decide +kernel
theorem dc_BR_insertLength_48 : decode prog_2_method_5_code 48 = .ok (.istore 4, 2) := by decide +kernel
theorem dc_BR_insertLength_50 : decode prog_2_method_5_code 50 = .ok (.iload 4, 2) := by decide +kernel
theorem dc_BR_insertLength_52 : decode prog_2_method_5_code 52 = .ok (.iload_n 1, 1) := by decide +kernel
theorem dc_BR_insertLength_53 : decode prog_2_method_5_code 53 = .ok (.if_icmp .lt 25, 3) := by decide +kernel
theorem dc_BR_insertLength_56 : decode prog_2_method_5_code 56 = .ok (.aload_n 0, 1) := by decide +kernel
theorem dc_BR_insertLength_57 : decode prog_2_method_5_code 57 = .ok (.getfield 9, 3) := by decide +kernel
theorem dc_BR_insertLength_60 : decode prog_2_method_5_code 60 = .ok (.iload 4, 2) := by decide +kernel
theorem dc_BR_insertLength_62 : decode prog_2_method_5_code 62 = .ok (.iload_n 3, 1) := by decide +kernel
theorem dc_BR_insertLength_63 : decode prog_2_method_5_code 63 = .ok (.iadd, 1) := by decide +kernel
theorem dc_BR_insertLength_64 : decode prog_2_method_5_code 64 = .ok (.aload_n 0, 1) := by decide +kernel
theorem dc_BR_insertLength_65 : decode prog_2_method_5_code 65 = .ok (.getfield 9, 3) := by decide +kernel
theorem dc_BR_insertLength_68 : decode prog_2_method_5_code 68 = .ok (.iload 4, 2) := by decide +kernel
theorem dc_BR_insertLength_70 : decode prog_2_method_5_code 70 = .ok (.iaload, 1) := by decide +kernel
theorem dc_BR_insertLength_71 : decode prog_2_method_5_code 71 = .ok (.iastore, 1) := by decide +kernel
theorem dc_BR_insertLength_72 : decode prog_2_method_5_code 72 = .ok (.iinc 4 (-1), 3) := by decide +kernel
theorem dc_BR_insertLength_75 : decode prog_2_method_5_code 75 = .ok (.goto (-25), 3) := by decide +kernel
theorem dc_BR_insertLength_78 : decode prog_2_method_5_code 78 = .ok (.aload_n 0, 1) := by decide +kernel
theorem dc_BR_insertLength_79 : decode prog_2_method_5_code 79 = .ok (.dup, 1) := by decide +kernel
theorem dc_BR_insertLength_80 : decode prog_2_method_5_code 80 = .ok (.getfield 15, 3) := by decide +kernel
theorem dc_BR_insertLength_83 : decode prog_2_method_5_code 83 = .ok (.iload_n 3, 1) := by decide +kernel
theorem dc_BR_insertLength_84 : decode prog_2_method_5_code 84 = .ok (.iadd, 1) := by decide +kernel
theorem dc_BR_insertLength_85 : decode prog_2_method_5_code 85 = .ok (.putfield 15, 3) := by decide +kernel
theorem dc_BR_insertLength_88 : decode prog_2_method_5_code 88 = .ok (.aload_n 0, 1) := by decide +kernel
theorem dc_BR_insertLength_89 : decode prog_2_method_5_code 89 = .ok (.getfield 9, 3) := by decide +kernel
theorem dc_BR_insertLength_92 : decode prog_2_method_5_code 92 = .ok (.iload_n 1, 1) := by decide +kernel
theorem dc_BR_insertLength_93 : decode prog_2_method_5_code 93 = .ok (.iload_n 3, 1) := by decide +kernel
theorem dc_BR_insertLength_94 : decode prog_2_method_5_code 94 = .ok (.iadd, 1) := by decide +kernel
theorem dc_BR_insertLength_95 : decode prog_2_method_5_code 95 = .ok (.iconst 1, 1) := by decide +kernel
theorem dc_BR_insertLength_96 : decode prog_2_method_5_code 96 = .ok (.isub, 1) := by decide +kernel
theorem dc_BR_insertLength_97 : decode prog_2_method_5_code 97 = .ok (.iload_n 2, 1) := by decide +kernel
theorem dc_BR_insertLength_98 : decode prog_2_method_5_code 98 = .ok (.iastore, 1) := by decide +kernel
theorem dc_BR_insertLength_99 : decode prog_2_method_5_code 99 = .ok (.iload_n 3, 1) := by decide +kernel
theorem dc_BR_insertLength_100 : decode prog_2_method_5_code 100 = .ok (.iconst 2, 1) := by decide +kernel
theorem dc_BR_insertLength_101 : decode prog_2_method_5_code 101 = .ok (.if_icmp .ne 12, 3) := by decide +kernel
theorem dc_BR_insertLength_104 : decode prog_2_method_5_code 104 = .ok (.aload_n 0, 1) := by decide +kernel
theorem dc_BR_insertLength_105 : decode prog_2_method_5_code 105 = .ok (.getfield 9, 3) := by decide +kernel
theorem dc_BR_insertLength_108 : decode prog_2_method_5_code 108 = .ok (.iload_n 1, 1) := by decide +kernel
theorem dc_BR_insertLength_109 : decode prog_2_method_5_code 109 = .ok (.sipush 129, 3) := by decide +kernel
theorem dc_BR_insertLength_112 : decode prog_2_method_5_code 112 = .ok (.iastore, 1) := by decide +kernel
theorem dc_BR_insertLength_113 : decode prog_2_method_5_code 113 = .ok (.return_, 1) := by decide +kernel
theorem dc_BR_appendInteger_0 : decode prog_2_method_6_code 0 = .ok (.aload_n 0, 1) := by decide +kernel
theorem dc_BR_appendInteger_1 : decode prog_2_method_6_code 1 = .ok (.iconst 2, 1) := by decide +kernel
theorem dc_BR_appendInteger_2 : decode prog_2_method_6_code 2 = .ok (.invokevirtual 20, 3) := by decide +kernel
theorem dc_BR_appendInteger_5 : decode prog_2_method_6_code 5 = .ok (.istore_n 2, 1) := by decide +kernel
theorem dc_BR_appendInteger_6 : decode prog_2_method_6_code 6 = .ok (.iconst 1, 1) := by decide +kernel
theorem dc_BR_appendInteger_7 : decode prog_2_method_6_code 7 = .ok (.istore_n 3, 1) := by decide +kernel
theorem dc_BR_appendInteger_8 : decode prog_2_method_6_code 8 = .ok (.iload_n 3, 1) := by decide +kernel
theorem dc_BR_appendInteger_9 : decode prog_2_method_6_code 9 = .ok (.iconst 4, 1) := by decide +kernel
theorem dc_BR_appendInteger_10 : decode prog_2_method_6_code 10 = .ok (.if_icmp .ge 20, 3) := by decide +kernel
theorem dc_BR_appendInteger_13 : decode prog_2_method_6_code 13 = .ok (.iload_n 1, 1) := by decide +kernel
theorem dc_BR_appendInteger_14 : decode prog_2_method_6_code 14 = .ok (.bipush 8, 2) := by decide +kernel
theorem dc_BR_appendInteger_16 : decode prog_2_method_6_code 16 = .ok (.iload_n 3, 1) := by decide +kernel
theorem dc_BR_appendInteger_17 : decode prog_2_method_6_code 17 = .ok (.imul, 1) := by decide +kernel
theorem dc_BR_appendInteger_18 : decode prog_2_method_6_code 18 = .ok (.iconst 1, 1) := by decide +kernel
theorem dc_BR_appendInteger_19 : decode prog_2_method_6_code 19 = .ok (.isub, 1) := by decide +kernel
theorem dc_BR_appendInteger_20 : decode prog_2_method_6_code 20 = .ok (.iushr, 1) := by decide +kernel
theorem dc_BR_appendInteger_21 : decode prog_2_method_6_code 21 = .ok (.ifCond .eq 9, 3) := by decide +kernel
theorem dc_BR_appendInteger_24 : decode prog_2_method_6_code 24 = .ok (.iinc 3 1, 3) := by decide +kernel
theorem dc_BR_appendInteger_27 : decode prog_2_method_6_code 27 = .ok (.goto (-19), 3) := by decide +kernel
theorem dc_BR_appendInteger_30 : decode prog_2_method_6_code 30 = .ok (.iload_n 3, 1) := by decide +kernel
theorem dc_BR_appendInteger_31 : decode prog_2_method_6_code 31 = .ok (.iconst 1, 1) := by decide +kernel
theorem dc_BR_appendInteger_32 : decode prog_2_method_6_code 32 = .ok (.isub, 1) := by decide +kernel
theorem dc_BR_appendInteger_33 : decode prog_2_method_6_code 33 = .ok (.istore 4, 2) := by decide +kernel
theorem dc_BR_appendInteger_35 : decode prog_2_method_6_code 35 = .ok (.iload 4, 2) := by decide +kernel
theorem dc_BR_appendInteger_37 : decode prog_2_method_6_code 37 = .ok (.ifCond .lt 25, 3) := by decide +kernel
theorem dc_BR_appendInteger_40 : decode prog_2_method_6_code 40 = .ok (.aload_n 0, 1) := by decide +kernel
theorem dc_BR_appendInteger_41 : decode prog_2_method_6_code 41 = .ok (.iload_n 1, 1) := by decide +kernel
theorem dc_BR_appendInteger_42 : decode prog_2_method_6_code 42 = .ok (.bipush 8, 2) := by decide +kernel
theorem dc_BR_appendInteger_44 : decode prog_2_method_6_code 44 = .ok (.iload 4, 2) := by decide +kernel
theorem dc_BR_appendInteger_46 : decode prog_2_method_6_code 46 = .ok (.imul, 1) := by decide +kernel
theorem dc_BR_appendInteger_47 : decode prog_2_method_6_code 47 = .ok (.iushr, 1) := by decide +kernel
theorem dc_BR_appendInteger_48 : decode prog_2_method_6_code 48 = .ok (.sipush 255, 3) := by decide +kernel
theorem dc_BR_appendInteger_51 : decode prog_2_method_6_code 51 = .ok (.iand, 1) := by decide +kernel
theorem dc_BR_appendInteger_52 : decode prog_2_method_6_code 52 = .ok (.invokevirtual 20, 3) := by decide +kernel
theorem dc_BR_appendInteger_55 : decode prog_2_method_6_code 55 = .ok (.pop, 1) := by decide +kernel
theorem dc_BR_appendInteger_56 : decode prog_2_method_6_code 56 = .ok (.iinc 4 (-1), 3) := by decide +kernel
theorem dc_BR_appendInteger_59 : decode prog_2_method_6_code 59 = .ok (.goto (-24), 3) := by decide +kernel
theorem dc_BR_appendInteger_62 : decode prog_2_method_6_code 62 = .ok (.aload_n 0, 1) := by decide +kernel
theorem dc_BR_appendInteger_63 : decode prog_2_method_6_code 63 = .ok (.iload_n 2, 1) := by decide +kernel
theorem dc_BR_appendInteger_64 : decode prog_2_method_6_code 64 = .ok (.invokevirtual 24, 3) := by decide +kernel
theorem dc_BR_appendInteger_67 : decode prog_2_method_6_code 67 = .ok (.return_, 1) := by decide +kernel
theorem dc_BR_appendTrue_0 : decode prog_2_method_7_code 0 = .ok (.aload_n 0, 1) := by decide +kernel
theorem dc_BR_appendTrue_1 : decode prog_2_method_7_code 1 = .ok (.iconst 1, 1) := by decide +kernel
theorem dc_BR_appendTrue_2 : decode prog_2_method_7_code 2 = .ok (.invokevirtual 20, 3) := by decide +kernel
theorem dc_BR_appendTrue_5 : decode prog_2_method_7_code 5 = .ok (.istore_n 1, 1) := by decide +kernel
theorem dc_BR_appendTrue_6 : decode prog_2_method_7_code 6 = .ok (.aload_n 0, 1) := by decide +kernel
theorem dc_BR_appendTrue_7 : decode prog_2_method_7_code 7 = .ok (.sipush 255, 3) := by decide +kernel
theorem dc_BR_appendTrue_10 : decode prog_2_method_7_code 10 = .ok (.invokevirtual 20, 3) := by decide +kernel
theorem dc_BR_appendTrue_13 : decode prog_2_method_7_code 13 = .ok (.pop, 1) := by decide +kernel
theorem dc_BR_appendTrue_14 : decode prog_2_method_7_code 14 = .ok (.aload_n 0, 1) := by decide +kernel
theorem dc_BR_appendTrue_15 : decode prog_2_method_7_code 15 = .ok (.iload_n 1, 1) := by decide +kernel
theorem dc_BR_appendTrue_16 : decode prog_2_method_7_code 16 = .ok (.invokevirtual 24, 3) := by decide +kernel
theorem dc_BR_appendTrue_19 : decode prog_2_method_7_code 19 = .ok (.return_, 1) := by decide +kernel
theorem dc_RD_init_0 : decode prog_7_method_1_code 0 = .ok (.aload_n 0, 1) := by decide +kernel
theorem dc_RD_init_1 : decode prog_7_method_1_code 1 = .ok (.invokespecial 3, 3) := by decide +kernel
theorem dc_RD_init_4 : decode prog_7_method_1_code 4 = .ok (.aload_n 0, 1) := by decide +kernel
theorem dc_RD_init_5 : decode prog_7_method_1_code 5 = .ok (.new 9, 3) := by decide +kernel
theorem dc_RD_init_8 : decode prog_7_method_1_code 8 = .ok (.dup, 1) := by decide +kernel
theorem dc_RD_init_9 : decode prog_7_method_1_code 9 = .ok (.invokespecial 11, 3) := by decide +kernel
theorem dc_RD_init_12 : decode prog_7_method_1_code 12 = .ok (.putfield 12, 3) := by decide +kernel
theorem dc_RD_init_15 : decode prog_7_method_1_code 15 = .ok (.aload_n 0, 1) := by decide +kernel
theorem dc_RD_init_16 : decode prog_7_method_1_code 16 = .ok (.bipush 11, 2) := by decide +kernel
theorem dc_RD_init_18 : decode prog_7_method_1_code 18 = .ok (.newarray .int, 2) := by decide +kernel
theorem dc_RD_init_20 : decode prog_7_method_1_code 20 = .ok (.putfield 18, 3) := by decide +kernel
theorem dc_RD_init_23 : decode prog_7_method_1_code 23 = .ok (.aload_n 0, 1) := by decide +kernel
theorem dc_RD_init_24 : decode prog_7_method_1_code 24 = .ok (.iconst 0, 1) := by decide +kernel
theorem dc_RD_init_25 : decode prog_7_method_1_code 25 = .ok (.putfield 22, 3) := by decide +kernel
theorem dc_RD_init_28 : decode prog_7_method_1_code 28 = .ok (.aload_n 0, 1) := by decide +kernel
theorem dc_RD_init_29 : decode prog_7_method_1_code 29 = .ok (.iconst 0, 1) := by decide +kernel
theorem dc_RD_init_30 : decode prog_7_method_1_code 30 = .ok (.putfield 26, 3) := by decide +kernel
theorem dc_RD_init_33 : decode prog_7_method_1_code 33 = .ok (.aload_n 0, 1) := by decide +kernel
theorem dc_RD_init_34 : decode prog_7_method_1_code 34 = .ok (.iconst 0, 1) := by decide +kernel
theorem dc_RD_init_35 : decode prog_7_method_1_code 35 = .ok (.putfield 29, 3) := by decide +kernel
theorem dc_RD_init_38 : decode prog_7_method_1_code 38 = .ok (.return_, 1) := by decide +kernel
theorem dc_RD_start_0 : decode prog_7_method_2_code 0 = .ok (.aload_n 0, 1) := by decide +kernel
theorem dc_RD_start_1 : decode prog_7_method_2_code 1 = .ok (.iconst 0, 1) := by decide +kernel
theorem dc_RD_start_2 : decode prog_7_method_2_code 2 = .ok (.putfield 22, 3) := by decide +kernel
theorem dc_RD_start_5 : decode prog_7_method_2_code 5 = .ok (.aload_n 0, 1) := by decide +kernel
theorem dc_RD_start_6 : decode prog_7_method_2_code 6 = .ok (.getfield 18, 3) := by decide +kernel
theorem dc_RD_start_9 : decode prog_7_method_2_code 9 = .ok (.iconst 0, 1) := by decide +kernel
theorem dc_RD_start_10 : decode prog_7_method_2_code 10 = .ok (.aload_n 0, 1) := by decide +kernel
theorem dc_RD_start_11 : decode prog_7_method_2_code 11 = .ok (.getfield 12, 3) := by decide +kernel
theorem dc_RD_start_14 : decode prog_7_method_2_code 14 = .ok (.getfield 33, 3) := by decide +kernel
theorem dc_RD_start_17 : decode prog_7_method_2_code 17 = .ok (.iastore, 1) := by decide +kernel
theorem dc_RD_start_18 : decode prog_7_method_2_code 18 = .ok (.aload_n 0, 1) := by decide +kernel
theorem dc_RD_start_19 : decode prog_7_method_2_code 19 = .ok (.iconst 0, 1) := by decide +kernel
theorem dc_RD_start_20 : decode prog_7_method_2_code 20 = .ok (.putfield 26, 3) := by decide +kernel
theorem dc_RD_start_23 : decode prog_7_method_2_code 23 = .ok (.aload_n 0, 1) := by decide +kernel
theorem dc_RD_start_24 : decode prog_7_method_2_code 24 = .ok (.iconst 1, 1) := by decide +kernel
theorem dc_RD_start_25 : decode prog_7_method_2_code 25 = .ok (.putfield 29, 3) := by decide +kernel
theorem dc_RD_start_28 : decode prog_7_method_2_code 28 = .ok (.return_, 1) := by decide +kernel
theorem dc_RD_refuse_0 : decode prog_7_method_3_code 0 = .ok (.aload_n 0, 1) := by decide +kernel
theorem dc_RD_refuse_1 : decode prog_7_method_3_code 1 = .ok (.iconst 0, 1) := by decide +kernel
theorem dc_RD_refuse_2 : decode prog_7_method_3_code 2 = .ok (.putfield 29, 3) := by decide +kernel
theorem dc_RD_refuse_5 : decode prog_7_method_3_code 5 = .ok (.return_, 1) := by decide +kernel
theorem dc_RD_isAtEndOfRow_0 : decode prog_7_method_4_code 0 = .ok (.aload_n 0, 1) := by decide +kernel
theorem dc_RD_isAtEndOfRow_1 : decode prog_7_method_4_code 1 = .ok (.getfield 29, 3) := by decide +kernel
theorem dc_RD_isAtEndOfRow_4 : decode prog_7_method_4_code 4 = .ok (.ifCond .eq 27, 3) := by decide +kernel
theorem dc_RD_isAtEndOfRow_7 : decode prog_7_method_4_code 7 = .ok (.aload_n 0, 1) := by decide +kernel
theorem dc_RD_isAtEndOfRow_8 : decode prog_7_method_4_code 8 = .ok (.getfield 22, 3) := by decide +kernel
theorem dc_RD_isAtEndOfRow_11 : decode prog_7_method_4_code 11 = .ok (.ifCond .ne 20, 3) := by decide +kernel
theorem dc_RD_isAtEndOfRow_14 : decode prog_7_method_4_code 14 = .ok (.aload_n 0, 1) := by decide +kernel
theorem dc_RD_isAtEndOfRow_15 : decode prog_7_method_4_code 15 = .ok (.getfield 26, 3) := by decide +kernel
theorem dc_RD_isAtEndOfRow_18 : decode prog_7_method_4_code 18 = .ok (.aload_n 0, 1) := by decide +kernel
theorem dc_RD_isAtEndOfRow_19 : decode prog_7_method_4_code 19 = .ok (.getfield 18, 3) := by decide +kernel
theorem dc_RD_isAtEndOfRow_22 : decode prog_7_method_4_code 22 = .ok (.iconst 0, 1) := by decide +kernel
theorem dc_RD_isAtEndOfRow_23 : decode prog_7_method_4_code 23 = .ok (.iaload, 1) := by decide +kernel
theorem dc_RD_isAtEndOfRow_24 : decode prog_7_method_4_code 24 = .ok (.if_icmp .ne 7, 3) := by decide +kernel
theorem dc_RD_isAtEndOfRow_27 : decode prog_7_method_4_code 27 = .ok (.iconst 1, 1) := by decide +kernel
theorem dc_RD_isAtEndOfRow_28 : decode prog_7_method_4_code 28 = .ok (.goto 4, 3) := by decide +kernel
theorem dc_RD_isAtEndOfRow_31 : decode prog_7_method_4_code 31 = .ok (.iconst 0, 1) := by decide +kernel
theorem dc_RD_isAtEndOfRow_32 : decode prog_7_method_4_code 32 = .ok (.ireturn, 1) := by decide +kernel
theorem dc_RD_remaining_0 : decode prog_7_method_5_code 0 = .ok (.aload_n 0, 1) := by decide +kernel
theorem dc_RD_remaining_1 : decode prog_7_method_5_code 1 = .ok (.getfield 29, 3) := by decide +kernel
theorem dc_RD_remaining_4 : decode prog_7_method_5_code 4 = .ok (.ifCond .eq 20, 3) := by decide +kernel
theorem dc_RD_remaining_7 : decode prog_7_method_5_code 7 = .ok (.aload_n 0, 1) := by decide +kernel
theorem dc_RD_remaining_8 : decode prog_7_method_5_code 8 = .ok (.getfield 18, 3) := by decide +kernel
theorem dc_RD_remaining_11 : decode prog_7_method_5_code 11 = .ok (.aload_n 0, 1) := by decide +kernel
theorem dc_RD_remaining_12 : decode prog_7_method_5_code 12 = .ok (.getfield 22, 3) := by decide +kernel
theorem dc_RD_remaining_15 : decode prog_7_method_5_code 15 = .ok (.iaload, 1) := by decide +kernel
theorem dc_RD_remaining_16 : decode prog_7_method_5_code 16 = .ok (.aload_n 0, 1) := by decide +kernel
theorem dc_RD_remaining_17 : decode prog_7_method_5_code 17 = .ok (.getfield 26, 3) := by decide +kernel
theorem dc_RD_remaining_20 : decode prog_7_method_5_code 20 = .ok (.isub, 1) := by decide +kernel
theorem dc_RD_remaining_21 : decode prog_7_method_5_code 21 = .ok (.goto 4, 3) := by decide +kernel
theorem dc_RD_remaining_24 : decode prog_7_method_5_code 24 = .ok (.iconst 0, 1) := by decide +kernel
theorem dc_RD_remaining_25 : decode prog_7_method_5_code 25 = .ok (.ireturn, 1) := by decide +kernel
theorem dc_RD_hashSince_0 : decode prog_7_method_6_code 0 = .ok (.aload_n 0, 1) := by decide +kernel
theorem dc_RD_hashSince_1 : decode prog_7_method_6_code 1 = .ok (.getfield 12, 3) := by decide +kernel
theorem dc_RD_hashSince_4 : decode prog_7_method_6_code 4 = .ok (.iload_n 1, 1) := by decide +kernel
theorem dc_RD_hashSince_5 : decode prog_7_method_6_code 5 = .ok (.aload_n 0, 1) := by decide +kernel
theorem dc_RD_hashSince_6 : decode prog_7_method_6_code 6 = .ok (.getfield 26, 3) := by decide +kernel
theorem dc_RD_hashSince_9 : decode prog_7_method_6_code 9 = .ok (.invokevirtual 36, 3) := by decide +kernel
theorem dc_RD_hashSince_12 : decode prog_7_method_6_code 12 = .ok (.ireturn, 1) := by decide +kernel
theorem dc_RD_nextIs_0 : decode prog_7_method_7_code 0 = .ok (.aload_n 0, 1) := by decide +kernel
theorem dc_RD_nextIs_1 : decode prog_7_method_7_code 1 = .ok (.getfield 29, 3) := by decide +kernel
theorem dc_RD_nextIs_4 : decode prog_7_method_7_code 4 = .ok (.ifCond .eq 39, 3) := by decide +kernel
theorem dc_RD_nextIs_7 : decode prog_7_method_7_code 7 = .ok (.aload_n 0, 1) := by decide +kernel
theorem dc_RD_nextIs_8 : decode prog_7_method_7_code 8 = .ok (.getfield 26, 3) := by decide +kernel
theorem dc_RD_nextIs_11 : decode prog_7_method_7_code 11 = .ok (.aload_n 0, 1) := by decide +kernel
theorem dc_RD_nextIs_12 : decode prog_7_method_7_code 12 = .ok (.getfield 18, 3) := by decide +kernel
theorem dc_RD_nextIs_15 : decode prog_7_method_7_code 15 = .ok (.aload_n 0, 1) := by decide +kernel
theorem dc_RD_nextIs_16 : decode prog_7_method_7_code 16 = .ok (.getfield 22, 3) := by decide +kernel
theorem dc_RD_nextIs_19 : decode prog_7_method_7_code 19 = .ok (.iaload, 1) := by decide +kernel
theorem dc_RD_nextIs_20 : decode prog_7_method_7_code 20 = .ok (.if_icmp .ge 23, 3) := by decide +kernel
theorem dc_RD_nextIs_23 : decode prog_7_method_7_code 23 = .ok (.aload_n 0, 1) := by decide +kernel
theorem dc_RD_nextIs_24 : decode prog_7_method_7_code 24 = .ok (.getfield 12, 3) := by decide +kernel
theorem dc_RD_nextIs_27 : decode prog_7_method_7_code 27 = .ok (.getfield 40, 3) := by decide +kernel
theorem dc_RD_nextIs_30 : decode prog_7_method_7_code 30 = .ok (.aload_n 0, 1) := by decide +kernel
theorem dc_RD_nextIs_31 : decode prog_7_method_7_code 31 = .ok (.getfield 26, 3) := by decide +kernel
theorem dc_RD_nextIs_34 : decode prog_7_method_7_code 34 = .ok (.iaload, 1) := by decide +kernel
theorem dc_RD_nextIs_35 : decode prog_7_method_7_code 35 = .ok (.iload_n 1, 1) := by decide +kernel
theorem dc_RD_nextIs_36 : decode prog_7_method_7_code 36 = .ok (.if_icmp .ne 7, 3) := by decide +kernel
theorem dc_RD_nextIs_39 : decode prog_7_method_7_code 39 = .ok (.iconst 1, 1) := by decide +kernel
theorem dc_RD_nextIs_40 : decode prog_7_method_7_code 40 = .ok (.goto 4, 3) := by decide +kernel
theorem dc_RD_nextIs_43 : decode prog_7_method_7_code 43 = .ok (.iconst 0, 1) := by decide +kernel
theorem dc_RD_nextIs_44 : decode prog_7_method_7_code 44 = .ok (.ireturn, 1) := by decide +kernel
theorem dc_RD_readByte_0 : decode prog_7_method_8_code 0 = .ok (.aload_n 0, 1) := by decide +kernel
theorem dc_RD_readByte_1 : decode prog_7_method_8_code 1 = .ok (.getfield 29, 3) := by decide +kernel
theorem dc_RD_readByte_4 : decode prog_7_method_8_code 4 = .ok (.ifCond .eq 19, 3) := by decide +kernel
theorem dc_RD_readByte_7 : decode prog_7_method_8_code 7 = .ok (.aload_n 0, 1) := by decide +kernel
theorem dc_RD_readByte_8 : decode prog_7_method_8_code 8 = .ok (.getfield 26, 3) := by decide +kernel
theorem dc_RD_readByte_11 : decode prog_7_method_8_code 11 = .ok (.aload_n 0, 1) := by decide +kernel
theorem dc_RD_readByte_12 : decode prog_7_method_8_code 12 = .ok (.getfield 18, 3) := by decide +kernel
theorem dc_RD_readByte_15 : decode prog_7_method_8_code 15 = .ok (.aload_n 0, 1) := by decide +kernel
theorem dc_RD_readByte_16 : decode prog_7_method_8_code 16 = .ok (.getfield 22, 3) := by decide +kernel
theorem dc_RD_readByte_19 : decode prog_7_method_8_code 19 = .ok (.iaload, 1) := by decide +kernel
theorem dc_RD_readByte_20 : decode prog_7_method_8_code 20 = .ok (.if_icmp .lt 10, 3) := by decide +kernel
theorem dc_RD_readByte_23 : decode prog_7_method_8_code 23 = .ok (.aload_n 0, 1) := by decide +kernel
theorem dc_RD_readByte_24 : decode prog_7_method_8_code 24 = .ok (.iconst 0, 1) := by decide +kernel
theorem dc_RD_readByte_25 : decode prog_7_method_8_code 25 = .ok (.putfield 29, 3) := by decide +kernel
theorem dc_RD_readByte_28 : decode prog_7_method_8_code 28 = .ok (.iconst 0, 1) := by decide +kernel
theorem dc_RD_readByte_29 : decode prog_7_method_8_code 29 = .ok (.ireturn, 1) := by decide +kernel
theorem dc_RD_readByte_30 : decode prog_7_method_8_code 30 = .ok (.aload_n 0, 1) := by decide +kernel
theorem dc_RD_readByte_31 : decode prog_7_method_8_code 31 = .ok (.dup, 1) := by decide +kernel
theorem dc_RD_readByte_32 : decode prog_7_method_8_code 32 = .ok (.getfield 26, 3) := by decide +kernel
theorem dc_RD_readByte_35 : decode prog_7_method_8_code 35 = .ok (.iconst 1, 1) := by decide +kernel
theorem dc_RD_readByte_36 : decode prog_7_method_8_code 36 = .ok (.iadd, 1) := by decide +kernel
theorem dc_RD_readByte_37 : decode prog_7_method_8_code 37 = .ok (.putfield 26, 3) := by decide +kernel
theorem dc_RD_readByte_40 : decode prog_7_method_8_code 40 = .ok (.aload_n 0, 1) := by decide +kernel
theorem dc_RD_readByte_41 : decode prog_7_method_8_code 41 = .ok (.getfield 12, 3) := by decide +kernel
theorem dc_RD_readByte_44 : decode prog_7_method_8_code 44 = .ok (.getfield 40, 3) := by decide +kernel
theorem dc_RD_readByte_47 : decode prog_7_method_8_code 47 = .ok (.aload_n 0, 1) := by decide +kernel
theorem dc_RD_readByte_48 : decode prog_7_method_8_code 48 = .ok (.getfield 26, 3) := by decide +kernel
theorem dc_RD_readByte_51 : decode prog_7_method_8_code 51 = .ok (.iconst 1, 1) := by decide +kernel
theorem dc_RD_readByte_52 : decode prog_7_method_8_code 52 = .ok (.isub, 1) := by decide +kernel
theorem dc_RD_readByte_53 : decode prog_7_method_8_code 53 = .ok (.iaload, 1) := by decide +kernel
theorem dc_RD_readByte_54 : decode prog_7_method_8_code 54 = .ok (.ireturn, 1) := by decide +kernel
theorem dc_RD_open_0 : decode prog_7_method_9_code 0 = .ok (.aload_n 0, 1) := by decide +kernel
theorem dc_RD_open_1 : decode prog_7_method_9_code 1 = .ok (.getfield 18, 3) := by decide +kernel
theorem dc_RD_open_4 : decode prog_7_method_9_code 4 = .ok (.aload_n 0, 1) := by decide +kernel
theorem dc_RD_open_5 : decode prog_7_method_9_code 5 = .ok (.getfield 22, 3) := by decide +kernel
theorem dc_RD_open_8 : decode prog_7_method_9_code 8 = .ok (.iaload, 1) := by decide +kernel
theorem dc_RD_open_9 : decode prog_7_method_9_code 9 = .ok (.istore_n 2, 1) := by decide +kernel
theorem dc_RD_open_10 : decode prog_7_method_9_code 10 = .ok (.aload_n 0, 1) := by decide +kernel
theorem dc_RD_open_11 : decode prog_7_method_9_code 11 = .ok (.getfield 29, 3) := by decide +kernel
theorem dc_RD_open_14 : decode prog_7_method_9_code 14 = .ok (.ifCond .eq 43, 3) := by decide +kernel
theorem dc_RD_open_17 : decode prog_7_method_9_code 17 = .ok (.aload_n 0, 1) := by decide +kernel
theorem dc_RD_open_18 : decode prog_7_method_9_code 18 = .ok (.getfield 22, 3) := by decide +kernel
theorem dc_RD_open_21 : decode prog_7_method_9_code 21 = .ok (.iconst 1, 1) := by decide +kernel
theorem dc_RD_open_22 : decode prog_7_method_9_code 22 = .ok (.iadd, 1) := by decide +kernel
theorem dc_RD_open_23 : decode prog_7_method_9_code 23 = .ok (.aload_n 0, 1) := by decide +kernel
theorem dc_RD_open_24 : decode prog_7_method_9_code 24 = .ok (.getfield 18, 3) := by decide +kernel
theorem dc_RD_open_27 : decode prog_7_method_9_code 27 = .ok (.arraylength, 1) := by decide +kernel
theorem dc_RD_open_28 : decode prog_7_method_9_code 28 = .ok (.if_icmp .ge 29, 3) := by decide +kernel
theorem dc_RD_open_31 : decode prog_7_method_9_code 31 = .ok (.iload_n 2, 1) := by decide +kernel
theorem dc_RD_open_32 : decode prog_7_method_9_code 32 = .ok (.aload_n 0, 1) := by decide +kernel
theorem dc_RD_open_33 : decode prog_7_method_9_code 33 = .ok (.getfield 26, 3) := by decide +kernel
theorem dc_RD_open_36 : decode prog_7_method_9_code 36 = .ok (.isub, 1) := by decide +kernel
theorem dc_RD_open_37 : decode prog_7_method_9_code 37 = .ok (.iconst 2, 1) := by decide +kernel
theorem dc_RD_open_38 : decode prog_7_method_9_code 38 = .ok (.if_icmp .lt 19, 3) := by decide +kernel
theorem dc_RD_open_41 : decode prog_7_method_9_code 41 = .ok (.aload_n 0, 1) := by decide +kernel
theorem dc_RD_open_42 : decode prog_7_method_9_code 42 = .ok (.getfield 12, 3) := by decide +kernel
theorem dc_RD_open_45 : decode prog_7_method_9_code 45 = .ok (.getfield 40, 3) := by decide +kernel
theorem dc_RD_open_48 : decode prog_7_method_9_code 48 = .ok (.aload_n 0, 1) := by decide +kernel
theorem dc_RD_open_49 : decode prog_7_method_9_code 49 = .ok (.getfield 26, 3) := by decide +kernel
theorem dc_RD_open_52 : decode prog_7_method_9_code 52 = .ok (.iaload, 1) := by decide +kernel
theorem dc_RD_open_53 : decode prog_7_method_9_code 53 = .ok (.iload_n 1, 1) := by decide +kernel
theorem dc_RD_open_54 : decode prog_7_method_9_code 54 = .ok (.if_icmp .eq 9, 3) := by decide +kernel
theorem dc_RD_open_57 : decode prog_7_method_9_code 57 = .ok (.aload_n 0, 1) := by decide +kernel
theorem dc_RD_open_58 : decode prog_7_method_9_code 58 = .ok (.iconst 0, 1) := by decide +kernel
theorem dc_RD_open_59 : decode prog_7_method_9_code 59 = .ok (.putfield 29, 3) := by decide +kernel
theorem dc_RD_open_62 : decode prog_7_method_9_code 62 = .ok (.return_, 1) := by decide +kernel
theorem dc_RD_open_63 : decode prog_7_method_9_code 63 = .ok (.aload_n 0, 1) := by decide +kernel
theorem dc_RD_open_64 : decode prog_7_method_9_code 64 = .ok (.getfield 12, 3) := by decide +kernel
theorem dc_RD_open_67 : decode prog_7_method_9_code 67 = .ok (.getfield 40, 3) := by decide +kernel
theorem dc_RD_open_70 : decode prog_7_method_9_code 70 = .ok (.aload_n 0, 1) := by decide +kernel
theorem dc_RD_open_71 : decode prog_7_method_9_code 71 = .ok (.getfield 26, 3) := by decide +kernel
theorem dc_RD_open_74 : decode prog_7_method_9_code 74 = .ok (.iconst 1, 1) := by decide +kernel
theorem dc_RD_open_75 : decode prog_7_method_9_code 75 = .ok (.iadd, 1) := by decide +kernel
theorem dc_RD_open_76 : decode prog_7_method_9_code 76 = .ok (.iaload, 1) := by decide +kernel
theorem dc_RD_open_77 : decode prog_7_method_9_code 77 = .ok (.istore_n 3, 1) := by decide +kernel
theorem dc_RD_open_78 : decode prog_7_method_9_code 78 = .ok (.aload_n 0, 1) := by decide +kernel
theorem dc_RD_open_79 : decode prog_7_method_9_code 79 = .ok (.getfield 26, 3) := by decide +kernel
theorem dc_RD_open_82 : decode prog_7_method_9_code 82 = .ok (.iconst 2, 1) := by decide +kernel
theorem dc_RD_open_83 : decode prog_7_method_9_code 83 = .ok (.iadd, 1) := by decide +kernel
theorem dc_RD_open_84 : decode prog_7_method_9_code 84 = .ok (.istore 4, 2) := by decide +kernel
theorem dc_RD_open_86 : decode prog_7_method_9_code 86 = .ok (.iload_n 3, 1) := by decide +kernel
theorem dc_RD_open_87 : decode prog_7_method_9_code 87 = .ok (.bipush 127, 2) := by decide +kernel
theorem dc_RD_open_89 : decode prog_7_method_9_code 89 = .ok (.if_icmp .le 51, 3) := by decide +kernel
theorem dc_RD_open_92 : decode prog_7_method_9_code 92 = .ok (.iload_n 3, 1) := by decide +kernel
theorem dc_RD_open_93 : decode prog_7_method_9_code 93 = .ok (.sipush 129, 3) := by decide +kernel
theorem dc_RD_open_96 : decode prog_7_method_9_code 96 = .ok (.if_icmp .ne 24, 3) := by decide +kernel
theorem dc_RD_open_99 : decode prog_7_method_9_code 99 = .ok (.iload 4, 2) := by decide +kernel
theorem dc_RD_open_101 : decode prog_7_method_9_code 101 = .ok (.iload_n 2, 1) := by decide +kernel
theorem dc_RD_open_102 : decode prog_7_method_9_code 102 = .ok (.if_icmp .ge 18, 3) := by decide +kernel
theorem dc_RD_open_105 : decode prog_7_method_9_code 105 = .ok (.aload_n 0, 1) := by decide +kernel
theorem dc_RD_open_106 : decode prog_7_method_9_code 106 = .ok (.getfield 12, 3) := by decide +kernel
theorem dc_RD_open_109 : decode prog_7_method_9_code 109 = .ok (.getfield 40, 3) := by decide +kernel
theorem dc_RD_open_112 : decode prog_7_method_9_code 112 = .ok (.iload 4, 2) := by decide +kernel
theorem dc_RD_open_114 : decode prog_7_method_9_code 114 = .ok (.iaload, 1) := by decide +kernel
theorem dc_RD_open_115 : decode prog_7_method_9_code 115 = .ok (.bipush 127, 2) := by decide +kernel
theorem dc_RD_open_117 : decode prog_7_method_9_code 117 = .ok (.if_icmp .gt 9, 3) := by decide +kernel
theorem dc_RD_open_120 : decode prog_7_method_9_code 120 = .ok (.aload_n 0, 1) := by decide +kernel
theorem dc_RD_open_121 : decode prog_7_method_9_code 121 = .ok (.iconst 0, 1) := by decide +kernel
theorem dc_RD_open_122 : decode prog_7_method_9_code 122 = .ok (.putfield 29, 3) := by decide +kernel
theorem dc_RD_open_125 : decode prog_7_method_9_code 125 = .ok (.return_, 1) := by decide +kernel
theorem dc_RD_open_126 : decode prog_7_method_9_code 126 = .ok (.aload_n 0, 1) := by decide +kernel
theorem dc_RD_open_127 : decode prog_7_method_9_code 127 = .ok (.getfield 12, 3) := by decide +kernel
theorem dc_RD_open_130 : decode prog_7_method_9_code 130 = .ok (.getfield 40, 3) := by decide +kernel
theorem dc_RD_open_133 : decode prog_7_method_9_code 133 = .ok (.iload 4, 2) := by decide +kernel
theorem dc_RD_open_135 : decode prog_7_method_9_code 135 = .ok (.iaload, 1) := by decide +kernel
theorem dc_RD_open_136 : decode prog_7_method_9_code 136 = .ok (.istore_n 3, 1) := by decide +kernel
theorem dc_RD_open_137 : decode prog_7_method_9_code 137 = .ok (.iinc 4 1, 3) := by decide +kernel
theorem dc_RD_open_140 : decode prog_7_method_9_code 140 = .ok (.iload_n 3, 1) := by decide +kernel
theorem dc_RD_open_141 : decode prog_7_method_9_code 141 = .ok (.iload_n 2, 1) := by decide +kernel
theorem dc_RD_open_142 : decode prog_7_method_9_code 142 = .ok (.iload 4, 2) := by decide +kernel
theorem dc_RD_open_144 : decode prog_7_method_9_code 144 = .ok (.isub, 1) := by decide +kernel
theorem dc_RD_open_145 : decode prog_7_method_9_code 145 = .ok (.if_icmp .le 9, 3) := by decide +kernel
theorem dc_RD_open_148 : decode prog_7_method_9_code 148 = .ok (.aload_n 0, 1) := by decide +kernel
theorem dc_RD_open_149 : decode prog_7_method_9_code 149 = .ok (.iconst 0, 1) := by decide +kernel
theorem dc_RD_open_150 : decode prog_7_method_9_code 150 = .ok (.putfield 29, 3) := by decide +kernel
theorem dc_RD_open_153 : decode prog_7_method_9_code 153 = .ok (.return_, 1) := by decide +kernel
theorem dc_RD_open_154 : decode prog_7_method_9_code 154 = .ok (.aload_n 0, 1) := by decide +kernel
theorem dc_RD_open_155 : decode prog_7_method_9_code 155 = .ok (.iload 4, 2) := by decide +kernel
theorem dc_RD_open_157 : decode prog_7_method_9_code 157 = .ok (.putfield 26, 3) := by decide +kernel
theorem dc_RD_open_160 : decode prog_7_method_9_code 160 = .ok (.aload_n 0, 1) := by decide +kernel
theorem dc_RD_open_161 : decode prog_7_method_9_code 161 = .ok (.dup, 1) := by decide +kernel
theorem dc_RD_open_162 : decode prog_7_method_9_code 162 = .ok (.getfield 22, 3) := by decide +kernel
theorem dc_RD_open_165 : decode prog_7_method_9_code 165 = .ok (.iconst 1, 1) := by decide +kernel
theorem dc_RD_open_166 : decode prog_7_method_9_code 166 = .ok (.iadd, 1) := by decide +kernel
theorem dc_RD_open_167 : decode prog_7_method_9_code 167 = .ok (.putfield 22, 3) := by decide +kernel
theorem dc_RD_open_170 : decode prog_7_method_9_code 170 = .ok (.aload_n 0, 1) := by decide +kernel
theorem dc_RD_open_171 : decode prog_7_method_9_code 171 = .ok (.getfield 18, 3) := by decide +kernel
theorem dc_RD_open_174 : decode prog_7_method_9_code 174 = .ok (.aload_n 0, 1) := by decide +kernel
theorem dc_RD_open_175 : decode prog_7_method_9_code 175 = .ok (.getfield 22, 3) := by decide +kernel
theorem dc_RD_open_178 : decode prog_7_method_9_code 178 = .ok (.iload 4, 2) := by decide +kernel
theorem dc_RD_open_180 : decode prog_7_method_9_code 180 = .ok (.iload_n 3, 1) := by decide +kernel
theorem dc_RD_open_181 : decode prog_7_method_9_code 181 = .ok (.iadd, 1) := by decide +kernel
theorem dc_RD_open_182 : decode prog_7_method_9_code 182 = .ok (.iastore, 1) := by decide +kernel
theorem dc_RD_open_183 : decode prog_7_method_9_code 183 = .ok (.return_, 1) := by decide +kernel
theorem dc_RD_close_0 : decode prog_7_method_10_code 0 = .ok (.aload_n 0, 1) := by decide +kernel
theorem dc_RD_close_1 : decode prog_7_method_10_code 1 = .ok (.getfield 29, 3) := by decide +kernel
theorem dc_RD_close_4 : decode prog_7_method_10_code 4 = .ok (.ifCond .eq 26, 3) := by decide +kernel
theorem dc_RD_close_7 : decode prog_7_method_10_code 7 = .ok (.aload_n 0, 1) := by decide +kernel
theorem dc_RD_close_8 : decode prog_7_method_10_code 8 = .ok (.getfield 22, 3) := by decide +kernel
theorem dc_RD_close_11 : decode prog_7_method_10_code 11 = .ok (.ifCond .eq 19, 3) := by decide +kernel
theorem dc_RD_close_14 : decode prog_7_method_10_code 14 = .ok (.aload_n 0, 1) := by decide +kernel
theorem dc_RD_close_15 : decode prog_7_method_10_code 15 = .ok (.getfield 26, 3) := by decide +kernel
theorem dc_RD_close_18 : decode prog_7_method_10_code 18 = .ok (.aload_n 0, 1) := by decide +kernel
theorem dc_RD_close_19 : decode prog_7_method_10_code 19 = .ok (.getfield 18, 3) := by decide +kernel
theorem dc_RD_close_22 : decode prog_7_method_10_code 22 = .ok (.aload_n 0, 1) := by decide +kernel
theorem dc_RD_close_23 : decode prog_7_method_10_code 23 = .ok (.getfield 22, 3) := by decide +kernel
theorem dc_RD_close_26 : decode prog_7_method_10_code 26 = .ok (.iaload, 1) := by decide +kernel
theorem dc_RD_close_27 : decode prog_7_method_10_code 27 = .ok (.if_icmp .eq 9, 3) := by decide +kernel
theorem dc_RD_close_30 : decode prog_7_method_10_code 30 = .ok (.aload_n 0, 1) := by decide +kernel
theorem dc_RD_close_31 : decode prog_7_method_10_code 31 = .ok (.iconst 0, 1) := by decide +kernel
theorem dc_RD_close_32 : decode prog_7_method_10_code 32 = .ok (.putfield 29, 3) := by decide +kernel
theorem dc_RD_close_35 : decode prog_7_method_10_code 35 = .ok (.return_, 1) := by decide +kernel
theorem dc_RD_close_36 : decode prog_7_method_10_code 36 = .ok (.aload_n 0, 1) := by decide +kernel
theorem dc_RD_close_37 : decode prog_7_method_10_code 37 = .ok (.dup, 1) := by decide +kernel
theorem dc_RD_close_38 : decode prog_7_method_10_code 38 = .ok (.getfield 22, 3) := by decide +kernel
theorem dc_RD_close_41 : decode prog_7_method_10_code 41 = .ok (.iconst 1, 1) := by decide +kernel
theorem dc_RD_close_42 : decode prog_7_method_10_code 42 = .ok (.isub, 1) := by decide +kernel
theorem dc_RD_close_43 : decode prog_7_method_10_code 43 = .ok (.putfield 22, 3) := by decide +kernel
theorem dc_RD_close_46 : decode prog_7_method_10_code 46 = .ok (.return_, 1) := by decide +kernel
theorem dc_RD_readInteger_0 : decode prog_7_method_11_code 0 = .ok (.aload_n 0, 1) := by decide +kernel
theorem dc_RD_readInteger_1 : decode prog_7_method_11_code 1 = .ok (.iconst 2, 1) := by decide +kernel
theorem dc_RD_readInteger_2 : decode prog_7_method_11_code 2 = .ok (.invokevirtual 43, 3) := by decide +kernel
theorem dc_RD_readInteger_5 : decode prog_7_method_11_code 5 = .ok (.aload_n 0, 1) := by decide +kernel
theorem dc_RD_readInteger_6 : decode prog_7_method_11_code 6 = .ok (.invokevirtual 47, 3) := by decide +kernel
theorem dc_RD_readInteger_9 : decode prog_7_method_11_code 9 = .ok (.istore_n 3, 1) := by decide +kernel
theorem dc_RD_readInteger_10 : decode prog_7_method_11_code 10 = .ok (.iload_n 3, 1) := by decide +kernel
theorem dc_RD_readInteger_11 : decode prog_7_method_11_code 11 = .ok (.iconst 1, 1) := by decide +kernel
theorem dc_RD_readInteger_12 : decode prog_7_method_11_code 12 = .ok (.if_icmp .lt 8, 3) := by decide +kernel
theorem dc_RD_readInteger_15 : decode prog_7_method_11_code 15 = .ok (.iload_n 3, 1) := by decide +kernel
theorem dc_RD_readInteger_16 : decode prog_7_method_11_code 16 = .ok (.iconst 4, 1) := by decide +kernel
theorem dc_RD_readInteger_17 : decode prog_7_method_11_code 17 = .ok (.if_icmp .le 9, 3) := by decide +kernel
theorem dc_RD_readInteger_20 : decode prog_7_method_11_code 20 = .ok (.aload_n 0, 1) := by decide +kernel
theorem dc_RD_readInteger_21 : decode prog_7_method_11_code 21 = .ok (.invokevirtual 51, 3) := by decide +kernel
theorem dc_RD_readInteger_24 : decode prog_7_method_11_code 24 = .ok (.iload_n 1, 1) := by decide +kernel
theorem dc_RD_readInteger_25 : decode prog_7_method_11_code 25 = .ok (.ireturn, 1) := by decide +kernel
theorem dc_RD_readInteger_26 : decode prog_7_method_11_code 26 = .ok (.aload_n 0, 1) := by decide +kernel
theorem dc_RD_readInteger_27 : decode prog_7_method_11_code 27 = .ok (.invokevirtual 54, 3) := by decide +kernel
theorem dc_RD_readInteger_30 : decode prog_7_method_11_code 30 = .ok (.istore 4, 2) := by decide +kernel
theorem dc_RD_readInteger_32 : decode prog_7_method_11_code 32 = .ok (.iload 4, 2) := by decide +kernel
theorem dc_RD_readInteger_34 : decode prog_7_method_11_code 34 = .ok (.istore 5, 2) := by decide +kernel
theorem dc_RD_readInteger_36 : decode prog_7_method_11_code 36 = .ok (.iconst 1, 1) := by decide +kernel
theorem dc_RD_readInteger_37 : decode prog_7_method_11_code 37 = .ok (.istore 6, 2) := by decide +kernel
theorem dc_RD_readInteger_39 : decode prog_7_method_11_code 39 = .ok (.iload 6, 2) := by decide +kernel
theorem dc_RD_readInteger_41 : decode prog_7_method_11_code 41 = .ok (.iload_n 3, 1) := by decide +kernel
theorem dc_RD_readInteger_42 : decode prog_7_method_11_code 42 = .ok (.if_icmp .ge 48, 3) := by decide +kernel
theorem dc_RD_readInteger_45 : decode prog_7_method_11_code 45 = .ok (.aload_n 0, 1) := by decide +kernel
theorem dc_RD_readInteger_46 : decode prog_7_method_11_code 46 = .ok (.invokevirtual 54, 3) := by decide +kernel
theorem dc_RD_readInteger_49 : decode prog_7_method_11_code 49 = .ok (.istore 7, 2) := by decide +kernel
theorem dc_RD_readInteger_51 : decode prog_7_method_11_code 51 = .ok (.iload 6, 2) := by decide +kernel
theorem dc_RD_readInteger_53 : decode prog_7_method_11_code 53 = .ok (.iconst 1, 1) := by decide +kernel
theorem dc_RD_readInteger_54 : decode prog_7_method_11_code 54 = .ok (.if_icmp .ne 20, 3) := by decide +kernel
theorem dc_RD_readInteger_57 : decode prog_7_method_11_code 57 = .ok (.iload 4, 2) := by decide +kernel
theorem dc_RD_readInteger_59 : decode prog_7_method_11_code 59 = .ok (.ifCond .ne 15, 3) := by decide +kernel
theorem dc_RD_readInteger_62 : decode prog_7_method_11_code 62 = .ok (.iload 7, 2) := by decide +kernel
theorem dc_RD_readInteger_64 : decode prog_7_method_11_code 64 = .ok (.sipush 128, 3) := by decide +kernel
theorem dc_RD_readInteger_67 : decode prog_7_method_11_code 67 = .ok (.if_icmp .ge 7, 3) := by decide +kernel
theorem dc_RD_readInteger_70 : decode prog_7_method_11_code 70 = .ok (.aload_n 0, 1) := by decide +kernel
theorem dc_RD_readInteger_71 : decode prog_7_method_11_code 71 = .ok (.invokevirtual 51, 3) := by decide +kernel
theorem dc_RD_readInteger_74 : decode prog_7_method_11_code 74 = .ok (.iload 5, 2) := by decide +kernel
theorem dc_RD_readInteger_76 : decode prog_7_method_11_code 76 = .ok (.bipush 8, 2) := by decide +kernel
theorem dc_RD_readInteger_78 : decode prog_7_method_11_code 78 = .ok (.ishl, 1) := by decide +kernel
theorem dc_RD_readInteger_79 : decode prog_7_method_11_code 79 = .ok (.iload 7, 2) := by decide +kernel
theorem dc_RD_readInteger_81 : decode prog_7_method_11_code 81 = .ok (.ior, 1) := by decide +kernel
theorem dc_RD_readInteger_82 : decode prog_7_method_11_code 82 = .ok (.istore 5, 2) := by decide +kernel
theorem dc_RD_readInteger_84 : decode prog_7_method_11_code 84 = .ok (.iinc 6 1, 3) := by decide +kernel
theorem dc_RD_readInteger_87 : decode prog_7_method_11_code 87 = .ok (.goto (-48), 3) := by decide +kernel
theorem dc_RD_readInteger_90 : decode prog_7_method_11_code 90 = .ok (.aload_n 0, 1) := by decide +kernel
theorem dc_RD_readInteger_91 : decode prog_7_method_11_code 91 = .ok (.invokevirtual 57, 3) := by decide +kernel
theorem dc_RD_readInteger_94 : decode prog_7_method_11_code 94 = .ok (.iload 4, 2) := by decide +kernel
theorem dc_RD_readInteger_96 : decode prog_7_method_11_code 96 = .ok (.bipush 127, 2) := by decide +kernel
theorem dc_RD_readInteger_98 : decode prog_7_method_11_code 98 = .ok (.if_icmp .gt 15, 3) := by decide +kernel
theorem dc_RD_readInteger_101 : decode prog_7_method_11_code 101 = .ok (.iload 5, 2) := by decide +kernel
theorem dc_RD_readInteger_103 : decode prog_7_method_11_code 103 = .ok (.iload_n 1, 1) := by decide +kernel
theorem dc_RD_readInteger_104 : decode prog_7_method_11_code 104 = .ok (.if_icmp .lt 9, 3) := by decide +kernel
theorem dc_RD_readInteger_107 : decode prog_7_method_11_code 107 = .ok (.iload 5, 2) := by decide +kernel
theorem dc_RD_readInteger_109 : decode prog_7_method_11_code 109 = .ok (.iload_n 2, 1) := by decide +kernel
theorem dc_RD_readInteger_110 : decode prog_7_method_11_code 110 = .ok (.if_icmp .le 9, 3) := by decide +kernel
theorem dc_RD_readInteger_113 : decode prog_7_method_11_code 113 = .ok (.aload_n 0, 1) := by decide +kernel
theorem dc_RD_readInteger_114 : decode prog_7_method_11_code 114 = .ok (.invokevirtual 51, 3) := by decide +kernel
theorem dc_RD_readInteger_117 : decode prog_7_method_11_code 117 = .ok (.iload_n 1, 1) := by decide +kernel
theorem dc_RD_readInteger_118 : decode prog_7_method_11_code 118 = .ok (.ireturn, 1) := by decide +kernel
theorem dc_RD_readInteger_119 : decode prog_7_method_11_code 119 = .ok (.iload 5, 2) := by decide +kernel
theorem dc_RD_readInteger_121 : decode prog_7_method_11_code 121 = .ok (.ireturn, 1) := by decide +kernel
theorem dc_RD_readTrueIfThere_0 : decode prog_7_method_12_code 0 = .ok (.aload_n 0, 1) := by decide +kernel
theorem dc_RD_readTrueIfThere_1 : decode prog_7_method_12_code 1 = .ok (.iconst 1, 1) := by decide +kernel
theorem dc_RD_readTrueIfThere_2 : decode prog_7_method_12_code 2 = .ok (.invokevirtual 60, 3) := by decide +kernel
theorem dc_RD_readTrueIfThere_5 : decode prog_7_method_12_code 5 = .ok (.ifCond .ne 5, 3) := by decide +kernel
theorem dc_RD_readTrueIfThere_8 : decode prog_7_method_12_code 8 = .ok (.iconst 0, 1) := by decide +kernel
theorem dc_RD_readTrueIfThere_9 : decode prog_7_method_12_code 9 = .ok (.ireturn, 1) := by decide +kernel
theorem dc_RD_readTrueIfThere_10 : decode prog_7_method_12_code 10 = .ok (.aload_n 0, 1) := by decide +kernel
theorem dc_RD_readTrueIfThere_11 : decode prog_7_method_12_code 11 = .ok (.iconst 1, 1) := by decide +kernel
theorem dc_RD_readTrueIfThere_12 : decode prog_7_method_12_code 12 = .ok (.invokevirtual 43, 3) := by decide +kernel
theorem dc_RD_readTrueIfThere_15 : decode prog_7_method_12_code 15 = .ok (.aload_n 0, 1) := by decide +kernel
theorem dc_RD_readTrueIfThere_16 : decode prog_7_method_12_code 16 = .ok (.invokevirtual 54, 3) := by decide +kernel
theorem dc_RD_readTrueIfThere_19 : decode prog_7_method_12_code 19 = .ok (.sipush 255, 3) := by decide +kernel
theorem dc_RD_readTrueIfThere_22 : decode prog_7_method_12_code 22 = .ok (.if_icmp .eq 7, 3) := by decide +kernel
theorem dc_RD_readTrueIfThere_25 : decode prog_7_method_12_code 25 = .ok (.aload_n 0, 1) := by decide +kernel
theorem dc_RD_readTrueIfThere_26 : decode prog_7_method_12_code 26 = .ok (.invokevirtual 51, 3) := by decide +kernel
theorem dc_RD_readTrueIfThere_29 : decode prog_7_method_12_code 29 = .ok (.aload_n 0, 1) := by decide +kernel
theorem dc_RD_readTrueIfThere_30 : decode prog_7_method_12_code 30 = .ok (.invokevirtual 57, 3) := by decide +kernel
theorem dc_RD_readTrueIfThere_33 : decode prog_7_method_12_code 33 = .ok (.iconst 1, 1) := by decide +kernel
theorem dc_RD_readTrueIfThere_34 : decode prog_7_method_12_code 34 = .ok (.ireturn, 1) := by decide +kernel
end
section
/-! what each instruction is -/
theorem dc_EX_init_0 : decode prog_4_method_1_code 0 = .ok (.aload_n 0, 1) := by decide +kernel
theorem dc_EX_init_1 : decode prog_4_method_1_code 1 = .ok (.invokespecial 3, 3) := by decide +kernel
theorem dc_EX_init_4 : decode prog_4_method_1_code 4 = .ok (.aload_n 0, 1) := by decide +kernel
theorem dc_EX_init_5 : decode prog_4_method_1_code 5 = .ok (.iconst 0, 1) := by decide +kernel
theorem dc_EX_init_6 : decode prog_4_method_1_code 6 = .ok (.putfield 9, 3) := by decide +kernel
theorem dc_EX_init_9 : decode prog_4_method_1_code 9 = .ok (.aload_n 0, 1) := by decide +kernel
theorem dc_EX_init_10 : decode prog_4_method_1_code 10 = .ok (.iconst 0, 1) := by decide +kernel
theorem dc_EX_init_11 : decode prog_4_method_1_code 11 = .ok (.putfield 15, 3) := by decide +kernel
theorem dc_EX_init_14 : decode prog_4_method_1_code 14 = .ok (.aload_n 0, 1) := by decide +kernel
theorem dc_EX_init_15 : decode prog_4_method_1_code 15 = .ok (.bipush 20, 2) := by decide +kernel
theorem dc_EX_init_17 : decode prog_4_method_1_code 17 = .ok (.newarray .int, 2) := by decide +kernel
theorem dc_EX_init_19 : decode prog_4_method_1_code 19 = .ok (.putfield 19, 3) := by decide +kernel
theorem dc_EX_init_22 : decode prog_4_method_1_code 22 = .ok (.aload_n 0, 1) := by decide +kernel
theorem dc_EX_init_23 : decode prog_4_method_1_code 23 = .ok (.iconst 0, 1) := by decide +kernel
theorem dc_EX_init_24 : decode prog_4_method_1_code 24 = .ok (.putfield 23, 3) := by decide +kernel
theorem dc_EX_init_27 : decode prog_4_method_1_code 27 = .ok (.return_, 1) := by decide +kernel
theorem dc_EX_isKnown_0 : decode prog_4_method_2_code 0 = .ok (.aload_n 0, 1) := by decide +kernel
theorem dc_EX_isKnown_1 : decode prog_4_method_2_code 1 = .ok (.getfield 9, 3) := by decide +kernel
theorem dc_EX_isKnown_4 : decode prog_4_method_2_code 4 = .ok (.iconst 1, 1) := by decide +kernel
theorem dc_EX_isKnown_5 : decode prog_4_method_2_code 5 = .ok (.if_icmp .eq 19, 3) := by decide +kernel
theorem dc_EX_isKnown_8 : decode prog_4_method_2_code 8 = .ok (.aload_n 0, 1) := by decide +kernel
theorem dc_EX_isKnown_9 : decode prog_4_method_2_code 9 = .ok (.getfield 9, 3) := by decide +kernel
theorem dc_EX_isKnown_12 : decode prog_4_method_2_code 12 = .ok (.iconst 2, 1) := by decide +kernel
theorem dc_EX_isKnown_13 : decode prog_4_method_2_code 13 = .ok (.if_icmp .eq 11, 3) := by decide +kernel
theorem dc_EX_isKnown_16 : decode prog_4_method_2_code 16 = .ok (.aload_n 0, 1) := by decide +kernel
theorem dc_EX_isKnown_17 : decode prog_4_method_2_code 17 = .ok (.getfield 9, 3) := by decide +kernel
theorem dc_EX_isKnown_20 : decode prog_4_method_2_code 20 = .ok (.iconst 3, 1) := by decide +kernel
theorem dc_EX_isKnown_21 : decode prog_4_method_2_code 21 = .ok (.if_icmp .ne 7, 3) := by decide +kernel
theorem dc_EX_isKnown_24 : decode prog_4_method_2_code 24 = .ok (.iconst 1, 1) := by decide +kernel
theorem dc_EX_isKnown_25 : decode prog_4_method_2_code 25 = .ok (.goto 4, 3) := by decide +kernel
theorem dc_EX_isKnown_28 : decode prog_4_method_2_code 28 = .ok (.iconst 0, 1) := by decide +kernel
theorem dc_EX_isKnown_29 : decode prog_4_method_2_code 29 = .ok (.ireturn, 1) := by decide +kernel
theorem dc_EX_readOctets_0 : decode prog_4_method_3_code 0 = .ok (.aload_n 0, 1) := by decide +kernel
theorem dc_EX_readOctets_1 : decode prog_4_method_3_code 1 = .ok (.aload_n 1, 1) := by decide +kernel
theorem dc_EX_readOctets_2 : decode prog_4_method_3_code 2 = .ok (.invokevirtual 26, 3) := by decide +kernel
theorem dc_EX_readOctets_5 : decode prog_4_method_3_code 5 = .ok (.putfield 23, 3) := by decide +kernel
theorem dc_EX_readOctets_8 : decode prog_4_method_3_code 8 = .ok (.aload_n 0, 1) := by decide +kernel
theorem dc_EX_readOctets_9 : decode prog_4_method_3_code 9 = .ok (.getfield 23, 3) := by decide +kernel
theorem dc_EX_readOctets_12 : decode prog_4_method_3_code 12 = .ok (.aload_n 0, 1) := by decide +kernel
theorem dc_EX_readOctets_13 : decode prog_4_method_3_code 13 = .ok (.getfield 19, 3) := by decide +kernel
theorem dc_EX_readOctets_16 : decode prog_4_method_3_code 16 = .ok (.arraylength, 1) := by decide +kernel
theorem dc_EX_readOctets_17 : decode prog_4_method_3_code 17 = .ok (.if_icmp .le 12, 3) := by decide +kernel
theorem dc_EX_readOctets_20 : decode prog_4_method_3_code 20 = .ok (.aload_n 1, 1) := by decide +kernel
theorem dc_EX_readOctets_21 : decode prog_4_method_3_code 21 = .ok (.invokevirtual 32, 3) := by decide +kernel
theorem dc_EX_readOctets_24 : decode prog_4_method_3_code 24 = .ok (.aload_n 0, 1) := by decide +kernel
theorem dc_EX_readOctets_25 : decode prog_4_method_3_code 25 = .ok (.iconst 0, 1) := by decide +kernel
theorem dc_EX_readOctets_26 : decode prog_4_method_3_code 26 = .ok (.putfield 23, 3) := by decide +kernel
theorem dc_EX_readOctets_29 : decode prog_4_method_3_code 29 = .ok (.iconst 0, 1) := by decide +kernel
theorem dc_EX_readOctets_30 : decode prog_4_method_3_code 30 = .ok (.istore_n 2, 1) := by decide +kernel
theorem dc_EX_readOctets_31 : decode prog_4_method_3_code 31 = .ok (.iload_n 2, 1) := by decide +kernel
theorem dc_EX_readOctets_32 : decode prog_4_method_3_code 32 = .ok (.aload_n 0, 1) := by decide +kernel
theorem dc_EX_readOctets_33 : decode prog_4_method_3_code 33 = .ok (.getfield 23, 3) := by decide +kernel
theorem dc_EX_readOctets_36 : decode prog_4_method_3_code 36 = .ok (.if_icmp .ge 19, 3) := by decide +kernel
theorem dc_EX_readOctets_39 : decode prog_4_method_3_code 39 = .ok (.aload_n 0, 1) := by decide +kernel
theorem dc_EX_readOctets_40 : decode prog_4_method_3_code 40 = .ok (.getfield 19, 3) := by decide +kernel
theorem dc_EX_readOctets_43 : decode prog_4_method_3_code 43 = .ok (.iload_n 2, 1) := by decide +kernel
theorem dc_EX_readOctets_44 : decode prog_4_method_3_code 44 = .ok (.aload_n 1, 1) := by decide +kernel
theorem dc_EX_readOctets_45 : decode prog_4_method_3_code 45 = .ok (.invokevirtual 35, 3) := by decide +kernel
theorem dc_EX_readOctets_48 : decode prog_4_method_3_code 48 = .ok (.iastore, 1) := by decide +kernel
theorem dc_EX_readOctets_49 : decode prog_4_method_3_code 49 = .ok (.iinc 2 1, 3) := by decide +kernel
theorem dc_EX_readOctets_52 : decode prog_4_method_3_code 52 = .ok (.goto (-21), 3) := by decide +kernel
theorem dc_EX_readOctets_55 : decode prog_4_method_3_code 55 = .ok (.return_, 1) := by decide +kernel
theorem dc_EX_writeOctets_0 : decode prog_4_method_4_code 0 = .ok (.iconst 0, 1) := by decide +kernel
theorem dc_EX_writeOctets_1 : decode prog_4_method_4_code 1 = .ok (.istore_n 2, 1) := by decide +kernel
theorem dc_EX_writeOctets_2 : decode prog_4_method_4_code 2 = .ok (.iload_n 2, 1) := by decide +kernel
theorem dc_EX_writeOctets_3 : decode prog_4_method_4_code 3 = .ok (.aload_n 0, 1) := by decide +kernel
theorem dc_EX_writeOctets_4 : decode prog_4_method_4_code 4 = .ok (.getfield 23, 3) := by decide +kernel
theorem dc_EX_writeOctets_7 : decode prog_4_method_4_code 7 = .ok (.if_icmp .ge 20, 3) := by decide +kernel
theorem dc_EX_writeOctets_10 : decode prog_4_method_4_code 10 = .ok (.aload_n 1, 1) := by decide +kernel
theorem dc_EX_writeOctets_11 : decode prog_4_method_4_code 11 = .ok (.aload_n 0, 1) := by decide +kernel
theorem dc_EX_writeOctets_12 : decode prog_4_method_4_code 12 = .ok (.getfield 19, 3) := by decide +kernel
theorem dc_EX_writeOctets_15 : decode prog_4_method_4_code 15 = .ok (.iload_n 2, 1) := by decide +kernel
theorem dc_EX_writeOctets_16 : decode prog_4_method_4_code 16 = .ok (.iaload, 1) := by decide +kernel
theorem dc_EX_writeOctets_17 : decode prog_4_method_4_code 17 = .ok (.invokevirtual 38, 3) := by decide +kernel
theorem dc_EX_writeOctets_20 : decode prog_4_method_4_code 20 = .ok (.pop, 1) := by decide +kernel
theorem dc_EX_writeOctets_21 : decode prog_4_method_4_code 21 = .ok (.iinc 2 1, 3) := by decide +kernel
theorem dc_EX_writeOctets_24 : decode prog_4_method_4_code 24 = .ok (.goto (-22), 3) := by decide +kernel
theorem dc_EX_writeOctets_27 : decode prog_4_method_4_code 27 = .ok (.return_, 1) := by decide +kernel
theorem dc_NM_init_0 : decode prog_5_method_1_code 0 = .ok (.aload_n 0, 1) := by decide +kernel
theorem dc_NM_init_1 : decode prog_5_method_1_code 1 = .ok (.invokespecial 3, 3) := by decide +kernel
theorem dc_NM_init_4 : decode prog_5_method_1_code 4 = .ok (.aload_n 0, 1) := by decide +kernel
theorem dc_NM_init_5 : decode prog_5_method_1_code 5 = .ok (.iconst 4, 1) := by decide +kernel
theorem dc_NM_init_6 : decode prog_5_method_1_code 6 = .ok (.newarray .long, 2) := by decide +kernel
theorem dc_NM_init_8 : decode prog_5_method_1_code 8 = .ok (.putfield 9, 3) := by decide +kernel
theorem dc_NM_init_11 : decode prog_5_method_1_code 11 = .ok (.aload_n 0, 1) := by decide +kernel
theorem dc_NM_init_12 : decode prog_5_method_1_code 12 = .ok (.iconst 0, 1) := by decide +kernel
theorem dc_NM_init_13 : decode prog_5_method_1_code 13 = .ok (.putfield 15, 3) := by decide +kernel
theorem dc_NM_init_16 : decode prog_5_method_1_code 16 = .ok (.return_, 1) := by decide +kernel
theorem dc_NM_isWithin_0 : decode prog_5_method_2_code 0 = .ok (.aload_n 0, 1) := by decide +kernel
theorem dc_NM_isWithin_1 : decode prog_5_method_2_code 1 = .ok (.getfield 15, 3) := by decide +kernel
theorem dc_NM_isWithin_4 : decode prog_5_method_2_code 4 = .ok (.aload_n 1, 1) := by decide +kernel
theorem dc_NM_isWithin_5 : decode prog_5_method_2_code 5 = .ok (.getfield 15, 3) := by decide +kernel
theorem dc_NM_isWithin_8 : decode prog_5_method_2_code 8 = .ok (.if_icmp .ge 5, 3) := by decide +kernel
theorem dc_NM_isWithin_11 : decode prog_5_method_2_code 11 = .ok (.iconst 0, 1) := by decide +kernel
theorem dc_NM_isWithin_12 : decode prog_5_method_2_code 12 = .ok (.ireturn, 1) := by decide +kernel
theorem dc_NM_isWithin_13 : decode prog_5_method_2_code 13 = .ok (.iconst 0, 1) := by decide +kernel
theorem dc_NM_isWithin_14 : decode prog_5_method_2_code 14 = .ok (.istore_n 2, 1) := by decide +kernel
theorem dc_NM_isWithin_15 : decode prog_5_method_2_code 15 = .ok (.iload_n 2, 1) := by decide +kernel
theorem dc_NM_isWithin_16 : decode prog_5_method_2_code 16 = .ok (.aload_n 1, 1) := by decide +kernel
theorem dc_NM_isWithin_17 : decode prog_5_method_2_code 17 = .ok (.getfield 15, 3) := by decide +kernel
theorem dc_NM_isWithin_20 : decode prog_5_method_2_code 20 = .ok (.if_icmp .ge 27, 3) := by decide +kernel
theorem dc_NM_isWithin_23 : decode prog_5_method_2_code 23 = .ok (.aload_n 0, 1) := by decide +kernel
theorem dc_NM_isWithin_24 : decode prog_5_method_2_code 24 = .ok (.getfield 9, 3) := by decide +kernel
theorem dc_NM_isWithin_27 : decode prog_5_method_2_code 27 = .ok (.iload_n 2, 1) := by decide +kernel
theorem dc_NM_isWithin_28 : decode prog_5_method_2_code 28 = .ok (.laload, 1) := by decide +kernel
theorem dc_NM_isWithin_29 : decode prog_5_method_2_code 29 = .ok (.aload_n 1, 1) := by decide +kernel
theorem dc_NM_isWithin_30 : decode prog_5_method_2_code 30 = .ok (.getfield 9, 3) := by decide +kernel
theorem dc_NM_isWithin_33 : decode prog_5_method_2_code 33 = .ok (.iload_n 2, 1) := by decide +kernel
theorem dc_NM_isWithin_34 : decode prog_5_method_2_code 34 = .ok (.laload, 1) := by decide +kernel
theorem dc_NM_isWithin_35 : decode prog_5_method_2_code 35 = .ok (.lcmp, 1) := by decide +kernel
theorem dc_NM_isWithin_36 : decode prog_5_method_2_code 36 = .ok (.ifCond .eq 5, 3) := by decide +kernel
theorem dc_NM_isWithin_39 : decode prog_5_method_2_code 39 = .ok (.iconst 0, 1) := by decide +kernel
theorem dc_NM_isWithin_40 : decode prog_5_method_2_code 40 = .ok (.ireturn, 1) := by decide +kernel
theorem dc_NM_isWithin_41 : decode prog_5_method_2_code 41 = .ok (.iinc 2 1, 3) := by decide +kernel
theorem dc_NM_isWithin_44 : decode prog_5_method_2_code 44 = .ok (.goto (-29), 3) := by decide +kernel
theorem dc_NM_isWithin_47 : decode prog_5_method_2_code 47 = .ok (.iconst 1, 1) := by decide +kernel
theorem dc_NM_isWithin_48 : decode prog_5_method_2_code 48 = .ok (.ireturn, 1) := by decide +kernel
theorem dc_NM_isSameAs_0 : decode prog_5_method_3_code 0 = .ok (.aload_n 0, 1) := by decide +kernel
theorem dc_NM_isSameAs_1 : decode prog_5_method_3_code 1 = .ok (.getfield 15, 3) := by decide +kernel
theorem dc_NM_isSameAs_4 : decode prog_5_method_3_code 4 = .ok (.aload_n 1, 1) := by decide +kernel
theorem dc_NM_isSameAs_5 : decode prog_5_method_3_code 5 = .ok (.getfield 15, 3) := by decide +kernel
theorem dc_NM_isSameAs_8 : decode prog_5_method_3_code 8 = .ok (.if_icmp .ne 15, 3) := by decide +kernel
theorem dc_NM_isSameAs_11 : decode prog_5_method_3_code 11 = .ok (.aload_n 0, 1) := by decide +kernel
theorem dc_NM_isSameAs_12 : decode prog_5_method_3_code 12 = .ok (.aload_n 1, 1) := by decide +kernel
theorem dc_NM_isSameAs_13 : decode prog_5_method_3_code 13 = .ok (.invokevirtual 19, 3) := by decide +kernel
theorem dc_NM_isSameAs_16 : decode prog_5_method_3_code 16 = .ok (.ifCond .eq 7, 3) := by decide +kernel
theorem dc_NM_isSameAs_19 : decode prog_5_method_3_code 19 = .ok (.iconst 1, 1) := by decide +kernel
theorem dc_NM_isSameAs_20 : decode prog_5_method_3_code 20 = .ok (.goto 4, 3) := by decide +kernel
theorem dc_NM_isSameAs_23 : decode prog_5_method_3_code 23 = .ok (.iconst 0, 1) := by decide +kernel
theorem dc_NM_isSameAs_24 : decode prog_5_method_3_code 24 = .ok (.ireturn, 1) := by decide +kernel
theorem dc_NM_readFrom_0 : decode prog_5_method_4_code 0 = .ok (.aload_n 0, 1) := by decide +kernel
theorem dc_NM_readFrom_1 : decode prog_5_method_4_code 1 = .ok (.iconst 0, 1) := by decide +kernel
theorem dc_NM_readFrom_2 : decode prog_5_method_4_code 2 = .ok (.putfield 15, 3) := by decide +kernel
theorem dc_NM_readFrom_5 : decode prog_5_method_4_code 5 = .ok (.aload_n 1, 1) := by decide +kernel
theorem dc_NM_readFrom_6 : decode prog_5_method_4_code 6 = .ok (.bipush 48, 2) := by decide +kernel
theorem dc_NM_readFrom_8 : decode prog_5_method_4_code 8 = .ok (.invokevirtual 23, 3) := by decide +kernel
theorem dc_NM_readFrom_11 : decode prog_5_method_4_code 11 = .ok (.aload_n 0, 1) := by decide +kernel
theorem dc_NM_readFrom_12 : decode prog_5_method_4_code 12 = .ok (.getfield 15, 3) := by decide +kernel
theorem dc_NM_readFrom_15 : decode prog_5_method_4_code 15 = .ok (.aload_n 0, 1) := by decide +kernel
theorem dc_NM_readFrom_16 : decode prog_5_method_4_code 16 = .ok (.getfield 9, 3) := by decide +kernel
theorem dc_NM_readFrom_19 : decode prog_5_method_4_code 19 = .ok (.arraylength, 1) := by decide +kernel
theorem dc_NM_readFrom_20 : decode prog_5_method_4_code 20 = .ok (.if_icmp .ge 111, 3) := by decide +kernel
theorem dc_NM_readFrom_23 : decode prog_5_method_4_code 23 = .ok (.aload_n 1, 1) := by decide +kernel
theorem dc_NM_readFrom_24 : decode prog_5_method_4_code 24 = .ok (.invokevirtual 29, 3) := by decide +kernel
theorem dc_NM_readFrom_27 : decode prog_5_method_4_code 27 = .ok (.ifCond .le 104, 3) := by decide +kernel
theorem dc_NM_readFrom_30 : decode prog_5_method_4_code 30 = .ok (.aload_n 1, 1) := by decide +kernel
theorem dc_NM_readFrom_31 : decode prog_5_method_4_code 31 = .ok (.bipush 19, 2) := by decide +kernel
theorem dc_NM_readFrom_33 : decode prog_5_method_4_code 33 = .ok (.invokevirtual 23, 3) := by decide +kernel
theorem dc_NM_readFrom_36 : decode prog_5_method_4_code 36 = .ok (.lconst 0, 1) := by decide +kernel
theorem dc_NM_readFrom_37 : decode prog_5_method_4_code 37 = .ok (.lstore_n 2, 1) := by decide +kernel
theorem dc_NM_readFrom_38 : decode prog_5_method_4_code 38 = .ok (.iconst 0, 1) := by decide +kernel
theorem dc_NM_readFrom_39 : decode prog_5_method_4_code 39 = .ok (.istore 4, 2) := by decide +kernel
theorem dc_NM_readFrom_41 : decode prog_5_method_4_code 41 = .ok (.iload 4, 2) := by decide +kernel
theorem dc_NM_readFrom_43 : decode prog_5_method_4_code 43 = .ok (.bipush 8, 2) := by decide +kernel
theorem dc_NM_readFrom_45 : decode prog_5_method_4_code 45 = .ok (.if_icmp .ge 49, 3) := by decide +kernel
theorem dc_NM_readFrom_48 : decode prog_5_method_4_code 48 = .ok (.aload_n 1, 1) := by decide +kernel
theorem dc_NM_readFrom_49 : decode prog_5_method_4_code 49 = .ok (.invokevirtual 29, 3) := by decide +kernel
theorem dc_NM_readFrom_52 : decode prog_5_method_4_code 52 = .ok (.ifCond .le 42, 3) := by decide +kernel
theorem dc_NM_readFrom_55 : decode prog_5_method_4_code 55 = .ok (.aload_n 1, 1) := by decide +kernel
theorem dc_NM_readFrom_56 : decode prog_5_method_4_code 56 = .ok (.invokevirtual 33, 3) := by decide +kernel
theorem dc_NM_readFrom_59 : decode prog_5_method_4_code 59 = .ok (.istore 5, 2) := by decide +kernel
theorem dc_NM_readFrom_61 : decode prog_5_method_4_code 61 = .ok (.iload 5, 2) := by decide +kernel
theorem dc_NM_readFrom_63 : decode prog_5_method_4_code 63 = .ok (.bipush 97, 2) := by decide +kernel
theorem dc_NM_readFrom_65 : decode prog_5_method_4_code 65 = .ok (.if_icmp .lt 10, 3) := by decide +kernel
theorem dc_NM_readFrom_68 : decode prog_5_method_4_code 68 = .ok (.iload 5, 2) := by decide +kernel
theorem dc_NM_readFrom_70 : decode prog_5_method_4_code 70 = .ok (.bipush 122, 2) := by decide +kernel
theorem dc_NM_readFrom_72 : decode prog_5_method_4_code 72 = .ok (.if_icmp .le 7, 3) := by decide +kernel
theorem dc_NM_readFrom_75 : decode prog_5_method_4_code 75 = .ok (.aload_n 1, 1) := by decide +kernel
theorem dc_NM_readFrom_76 : decode prog_5_method_4_code 76 = .ok (.invokevirtual 36, 3) := by decide +kernel
theorem dc_NM_readFrom_79 : decode prog_5_method_4_code 79 = .ok (.lload_n 2, 1) := by decide +kernel
theorem dc_NM_readFrom_80 : decode prog_5_method_4_code 80 = .ok (.bipush 8, 2) := by decide +kernel
theorem dc_NM_readFrom_82 : decode prog_5_method_4_code 82 = .ok (.lshl, 1) := by decide +kernel
theorem dc_NM_readFrom_83 : decode prog_5_method_4_code 83 = .ok (.iload 5, 2) := by decide +kernel
theorem dc_NM_readFrom_85 : decode prog_5_method_4_code 85 = .ok (.i2l, 1) := by decide +kernel
theorem dc_NM_readFrom_86 : decode prog_5_method_4_code 86 = .ok (.lor, 1) := by decide +kernel
theorem dc_NM_readFrom_87 : decode prog_5_method_4_code 87 = .ok (.lstore_n 2, 1) := by decide +kernel
theorem dc_NM_readFrom_88 : decode prog_5_method_4_code 88 = .ok (.iinc 4 1, 3) := by decide +kernel
theorem dc_NM_readFrom_91 : decode prog_5_method_4_code 91 = .ok (.goto (-50), 3) := by decide +kernel
theorem dc_NM_readFrom_94 : decode prog_5_method_4_code 94 = .ok (.lload_n 2, 1) := by decide +kernel
theorem dc_NM_readFrom_95 : decode prog_5_method_4_code 95 = .ok (.lconst 0, 1) := by decide +kernel
theorem dc_NM_readFrom_96 : decode prog_5_method_4_code 96 = .ok (.lcmp, 1) := by decide +kernel
theorem dc_NM_readFrom_97 : decode prog_5_method_4_code 97 = .ok (.ifCond .ne 7, 3) := by decide +kernel
theorem dc_NM_readFrom_100 : decode prog_5_method_4_code 100 = .ok (.aload_n 1, 1) := by decide +kernel
theorem dc_NM_readFrom_101 : decode prog_5_method_4_code 101 = .ok (.invokevirtual 36, 3) := by decide +kernel
theorem dc_NM_readFrom_104 : decode prog_5_method_4_code 104 = .ok (.aload_n 1, 1) := by decide +kernel
theorem dc_NM_readFrom_105 : decode prog_5_method_4_code 105 = .ok (.invokevirtual 39, 3) := by decide +kernel
theorem dc_NM_readFrom_108 : decode prog_5_method_4_code 108 = .ok (.aload_n 0, 1) := by decide +kernel
theorem dc_NM_readFrom_109 : decode prog_5_method_4_code 109 = .ok (.getfield 9, 3) := by decide +kernel
theorem dc_NM_readFrom_112 : decode prog_5_method_4_code 112 = .ok (.aload_n 0, 1) := by decide +kernel
theorem dc_NM_readFrom_113 : decode prog_5_method_4_code 113 = .ok (.getfield 15, 3) := by decide +kernel
theorem dc_NM_readFrom_116 : decode prog_5_method_4_code 116 = .ok (.lload_n 2, 1) := by decide +kernel
theorem dc_NM_readFrom_117 : decode prog_5_method_4_code 117 = .ok (.lastore, 1) := by decide +kernel
theorem dc_NM_readFrom_118 : decode prog_5_method_4_code 118 = .ok (.aload_n 0, 1) := by decide +kernel
theorem dc_NM_readFrom_119 : decode prog_5_method_4_code 119 = .ok (.dup, 1) := by decide +kernel
theorem dc_NM_readFrom_120 : decode prog_5_method_4_code 120 = .ok (.getfield 15, 3) := by decide +kernel
theorem dc_NM_readFrom_123 : decode prog_5_method_4_code 123 = .ok (.iconst 1, 1) := by decide +kernel
theorem dc_NM_readFrom_124 : decode prog_5_method_4_code 124 = .ok (.iadd, 1) := by decide +kernel
theorem dc_NM_readFrom_125 : decode prog_5_method_4_code 125 = .ok (.putfield 15, 3) := by decide +kernel
theorem dc_NM_readFrom_128 : decode prog_5_method_4_code 128 = .ok (.goto (-117), 3) := by decide +kernel
theorem dc_NM_readFrom_131 : decode prog_5_method_4_code 131 = .ok (.aload_n 1, 1) := by decide +kernel
theorem dc_NM_readFrom_132 : decode prog_5_method_4_code 132 = .ok (.invokevirtual 39, 3) := by decide +kernel
theorem dc_NM_readFrom_135 : decode prog_5_method_4_code 135 = .ok (.return_, 1) := by decide +kernel
theorem dc_NM_writeTo_0 : decode prog_5_method_5_code 0 = .ok (.aload_n 1, 1) := by decide +kernel
theorem dc_NM_writeTo_1 : decode prog_5_method_5_code 1 = .ok (.bipush 48, 2) := by decide +kernel
theorem dc_NM_writeTo_3 : decode prog_5_method_5_code 3 = .ok (.invokevirtual 42, 3) := by decide +kernel
theorem dc_NM_writeTo_6 : decode prog_5_method_5_code 6 = .ok (.istore_n 2, 1) := by decide +kernel
theorem dc_NM_writeTo_7 : decode prog_5_method_5_code 7 = .ok (.iconst 0, 1) := by decide +kernel
theorem dc_NM_writeTo_8 : decode prog_5_method_5_code 8 = .ok (.istore_n 3, 1) := by decide +kernel
theorem dc_NM_writeTo_9 : decode prog_5_method_5_code 9 = .ok (.iload_n 3, 1) := by decide +kernel
theorem dc_NM_writeTo_10 : decode prog_5_method_5_code 10 = .ok (.aload_n 0, 1) := by decide +kernel
theorem dc_NM_writeTo_11 : decode prog_5_method_5_code 11 = .ok (.getfield 15, 3) := by decide +kernel
theorem dc_NM_writeTo_14 : decode prog_5_method_5_code 14 = .ok (.if_icmp .ge 66, 3) := by decide +kernel
theorem dc_NM_writeTo_17 : decode prog_5_method_5_code 17 = .ok (.aload_n 1, 1) := by decide +kernel
theorem dc_NM_writeTo_18 : decode prog_5_method_5_code 18 = .ok (.bipush 19, 2) := by decide +kernel
theorem dc_NM_writeTo_20 : decode prog_5_method_5_code 20 = .ok (.invokevirtual 42, 3) := by decide +kernel
theorem dc_NM_writeTo_23 : decode prog_5_method_5_code 23 = .ok (.istore 4, 2) := by decide +kernel
theorem dc_NM_writeTo_25 : decode prog_5_method_5_code 25 = .ok (.bipush 56, 2) := by decide +kernel
theorem dc_NM_writeTo_27 : decode prog_5_method_5_code 27 = .ok (.istore 5, 2) := by decide +kernel
theorem dc_NM_writeTo_29 : decode prog_5_method_5_code 29 = .ok (.iload 5, 2) := by decide +kernel
theorem dc_NM_writeTo_31 : decode prog_5_method_5_code 31 = .ok (.ifCond .lt 37, 3) := by decide +kernel
theorem dc_NM_writeTo_34 : decode prog_5_method_5_code 34 = .ok (.aload_n 0, 1) := by decide +kernel
theorem dc_NM_writeTo_35 : decode prog_5_method_5_code 35 = .ok (.getfield 9, 3) := by decide +kernel
theorem dc_NM_writeTo_38 : decode prog_5_method_5_code 38 = .ok (.iload_n 3, 1) := by decide +kernel
theorem dc_NM_writeTo_39 : decode prog_5_method_5_code 39 = .ok (.laload, 1) := by decide +kernel
theorem dc_NM_writeTo_40 : decode prog_5_method_5_code 40 = .ok (.iload 5, 2) := by decide +kernel
theorem dc_NM_writeTo_42 : decode prog_5_method_5_code 42 = .ok (.lushr, 1) := by decide +kernel
theorem dc_NM_writeTo_43 : decode prog_5_method_5_code 43 = .ok (.l2i, 1) := by decide +kernel
theorem dc_NM_writeTo_44 : decode prog_5_method_5_code 44 = .ok (.sipush 255, 3) := by decide +kernel
theorem dc_NM_writeTo_47 : decode prog_5_method_5_code 47 = .ok (.iand, 1) := by decide +kernel
theorem dc_NM_writeTo_48 : decode prog_5_method_5_code 48 = .ok (.istore 6, 2) := by decide +kernel
theorem dc_NM_writeTo_50 : decode prog_5_method_5_code 50 = .ok (.iload 6, 2) := by decide +kernel
theorem dc_NM_writeTo_52 : decode prog_5_method_5_code 52 = .ok (.ifCond .eq 10, 3) := by decide +kernel
theorem dc_NM_writeTo_55 : decode prog_5_method_5_code 55 = .ok (.aload_n 1, 1) := by decide +kernel
theorem dc_NM_writeTo_56 : decode prog_5_method_5_code 56 = .ok (.iload 6, 2) := by decide +kernel
theorem dc_NM_writeTo_58 : decode prog_5_method_5_code 58 = .ok (.invokevirtual 42, 3) := by decide +kernel
theorem dc_NM_writeTo_61 : decode prog_5_method_5_code 61 = .ok (.pop, 1) := by decide +kernel
theorem dc_NM_writeTo_62 : decode prog_5_method_5_code 62 = .ok (.iinc 5 (-8), 3) := by decide +kernel
theorem dc_NM_writeTo_65 : decode prog_5_method_5_code 65 = .ok (.goto (-36), 3) := by decide +kernel
theorem dc_NM_writeTo_68 : decode prog_5_method_5_code 68 = .ok (.aload_n 1, 1) := by decide +kernel
theorem dc_NM_writeTo_69 : decode prog_5_method_5_code 69 = .ok (.iload 4, 2) := by decide +kernel
theorem dc_NM_writeTo_71 : decode prog_5_method_5_code 71 = .ok (.invokevirtual 48, 3) := by decide +kernel
theorem dc_NM_writeTo_74 : decode prog_5_method_5_code 74 = .ok (.iinc 3 1, 3) := by decide +kernel
theorem dc_NM_writeTo_77 : decode prog_5_method_5_code 77 = .ok (.goto (-68), 3) := by decide +kernel
theorem dc_NM_writeTo_80 : decode prog_5_method_5_code 80 = .ok (.aload_n 1, 1) := by decide +kernel
theorem dc_NM_writeTo_81 : decode prog_5_method_5_code 81 = .ok (.iload_n 2, 1) := by decide +kernel
theorem dc_NM_writeTo_82 : decode prog_5_method_5_code 82 = .ok (.invokevirtual 48, 3) := by decide +kernel
theorem dc_NM_writeTo_85 : decode prog_5_method_5_code 85 = .ok (.return_, 1) := by decide +kernel
theorem dc_NL_init_0 : decode prog_6_method_1_code 0 = .ok (.aload_n 0, 1) := by decide +kernel
theorem dc_NL_init_1 : decode prog_6_method_1_code 1 = .ok (.invokespecial 3, 3) := by decide +kernel
theorem dc_NL_init_4 : decode prog_6_method_1_code 4 = .ok (.aload_n 0, 1) := by decide +kernel
theorem dc_NL_init_5 : decode prog_6_method_1_code 5 = .ok (.iconst 3, 1) := by decide +kernel
theorem dc_NL_init_6 : decode prog_6_method_1_code 6 = .ok (.anewarray 9, 3) := by decide +kernel
theorem dc_NL_init_9 : decode prog_6_method_1_code 9 = .ok (.putfield 11, 3) := by decide +kernel
theorem dc_NL_init_12 : decode prog_6_method_1_code 12 = .ok (.iconst 0, 1) := by decide +kernel
theorem dc_NL_init_13 : decode prog_6_method_1_code 13 = .ok (.istore_n 1, 1) := by decide +kernel
theorem dc_NL_init_14 : decode prog_6_method_1_code 14 = .ok (.iload_n 1, 1) := by decide +kernel
theorem dc_NL_init_15 : decode prog_6_method_1_code 15 = .ok (.aload_n 0, 1) := by decide +kernel
theorem dc_NL_init_16 : decode prog_6_method_1_code 16 = .ok (.getfield 11, 3) := by decide +kernel
theorem dc_NL_init_19 : decode prog_6_method_1_code 19 = .ok (.arraylength, 1) := by decide +kernel
theorem dc_NL_init_20 : decode prog_6_method_1_code 20 = .ok (.if_icmp .ge 22, 3) := by decide +kernel
theorem dc_NL_init_23 : decode prog_6_method_1_code 23 = .ok (.aload_n 0, 1) := by decide +kernel
theorem dc_NL_init_24 : decode prog_6_method_1_code 24 = .ok (.getfield 11, 3) := by decide +kernel
theorem dc_NL_init_27 : decode prog_6_method_1_code 27 = .ok (.iload_n 1, 1) := by decide +kernel
theorem dc_NL_init_28 : decode prog_6_method_1_code 28 = .ok (.new 9, 3) := by decide +kernel
theorem dc_NL_init_31 : decode prog_6_method_1_code 31 = .ok (.dup, 1) := by decide +kernel
theorem dc_NL_init_32 : decode prog_6_method_1_code 32 = .ok (.invokespecial 17, 3) := by decide +kernel
theorem dc_NL_init_35 : decode prog_6_method_1_code 35 = .ok (.aastore, 1) := by decide +kernel
theorem dc_NL_init_36 : decode prog_6_method_1_code 36 = .ok (.iinc 1 1, 3) := by decide +kernel
theorem dc_NL_init_39 : decode prog_6_method_1_code 39 = .ok (.goto (-25), 3) := by decide +kernel
theorem dc_NL_init_42 : decode prog_6_method_1_code 42 = .ok (.aload_n 0, 1) := by decide +kernel
theorem dc_NL_init_43 : decode prog_6_method_1_code 43 = .ok (.iconst 0, 1) := by decide +kernel
theorem dc_NL_init_44 : decode prog_6_method_1_code 44 = .ok (.putfield 18, 3) := by decide +kernel
theorem dc_NL_init_47 : decode prog_6_method_1_code 47 = .ok (.return_, 1) := by decide +kernel
theorem dc_NL_covers_0 : decode prog_6_method_2_code 0 = .ok (.iconst 0, 1) := by decide +kernel
theorem dc_NL_covers_1 : decode prog_6_method_2_code 1 = .ok (.istore_n 2, 1) := by decide +kernel
theorem dc_NL_covers_2 : decode prog_6_method_2_code 2 = .ok (.iload_n 2, 1) := by decide +kernel
theorem dc_NL_covers_3 : decode prog_6_method_2_code 3 = .ok (.aload_n 0, 1) := by decide +kernel
theorem dc_NL_covers_4 : decode prog_6_method_2_code 4 = .ok (.getfield 18, 3) := by decide +kernel
theorem dc_NL_covers_7 : decode prog_6_method_2_code 7 = .ok (.if_icmp .ge 24, 3) := by decide +kernel
theorem dc_NL_covers_10 : decode prog_6_method_2_code 10 = .ok (.aload_n 1, 1) := by decide +kernel
theorem dc_NL_covers_11 : decode prog_6_method_2_code 11 = .ok (.aload_n 0, 1) := by decide +kernel
theorem dc_NL_covers_12 : decode prog_6_method_2_code 12 = .ok (.getfield 11, 3) := by decide +kernel
theorem dc_NL_covers_15 : decode prog_6_method_2_code 15 = .ok (.iload_n 2, 1) := by decide +kernel
theorem dc_NL_covers_16 : decode prog_6_method_2_code 16 = .ok (.aaload, 1) := by decide +kernel
theorem dc_NL_covers_17 : decode prog_6_method_2_code 17 = .ok (.invokevirtual 22, 3) := by decide +kernel
theorem dc_NL_covers_20 : decode prog_6_method_2_code 20 = .ok (.ifCond .eq 5, 3) := by decide +kernel
theorem dc_NL_covers_23 : decode prog_6_method_2_code 23 = .ok (.iconst 1, 1) := by decide +kernel
theorem dc_NL_covers_24 : decode prog_6_method_2_code 24 = .ok (.ireturn, 1) := by decide +kernel
theorem dc_NL_covers_25 : decode prog_6_method_2_code 25 = .ok (.iinc 2 1, 3) := by decide +kernel
theorem dc_NL_covers_28 : decode prog_6_method_2_code 28 = .ok (.goto (-26), 3) := by decide +kernel
theorem dc_NL_covers_31 : decode prog_6_method_2_code 31 = .ok (.iconst 0, 1) := by decide +kernel
theorem dc_NL_covers_32 : decode prog_6_method_2_code 32 = .ok (.ireturn, 1) := by decide +kernel
theorem dc_NL_readIfThere_0 : decode prog_6_method_3_code 0 = .ok (.aload_n 0, 1) := by decide +kernel
theorem dc_NL_readIfThere_1 : decode prog_6_method_3_code 1 = .ok (.iconst 0, 1) := by decide +kernel
theorem dc_NL_readIfThere_2 : decode prog_6_method_3_code 2 = .ok (.putfield 18, 3) := by decide +kernel
theorem dc_NL_readIfThere_5 : decode prog_6_method_3_code 5 = .ok (.aload_n 1, 1) := by decide +kernel
theorem dc_NL_readIfThere_6 : decode prog_6_method_3_code 6 = .ok (.iload_n 2, 1) := by decide +kernel
theorem dc_NL_readIfThere_7 : decode prog_6_method_3_code 7 = .ok (.invokevirtual 26, 3) := by decide +kernel
theorem dc_NL_readIfThere_10 : decode prog_6_method_3_code 10 = .ok (.ifCond .ne 4, 3) := by decide +kernel
theorem dc_NL_readIfThere_13 : decode prog_6_method_3_code 13 = .ok (.return_, 1) := by decide +kernel
theorem dc_NL_readIfThere_14 : decode prog_6_method_3_code 14 = .ok (.aload_n 1, 1) := by decide +kernel
theorem dc_NL_readIfThere_15 : decode prog_6_method_3_code 15 = .ok (.iload_n 2, 1) := by decide +kernel
theorem dc_NL_readIfThere_16 : decode prog_6_method_3_code 16 = .ok (.invokevirtual 32, 3) := by decide +kernel
theorem dc_NL_readIfThere_19 : decode prog_6_method_3_code 19 = .ok (.aload_n 0, 1) := by decide +kernel
theorem dc_NL_readIfThere_20 : decode prog_6_method_3_code 20 = .ok (.getfield 11, 3) := by decide +kernel
theorem dc_NL_readIfThere_23 : decode prog_6_method_3_code 23 = .ok (.aload_n 0, 1) := by decide +kernel
theorem dc_NL_readIfThere_24 : decode prog_6_method_3_code 24 = .ok (.getfield 18, 3) := by decide +kernel
theorem dc_NL_readIfThere_27 : decode prog_6_method_3_code 27 = .ok (.aaload, 1) := by decide +kernel
theorem dc_NL_readIfThere_28 : decode prog_6_method_3_code 28 = .ok (.aload_n 1, 1) := by decide +kernel
theorem dc_NL_readIfThere_29 : decode prog_6_method_3_code 29 = .ok (.invokevirtual 36, 3) := by decide +kernel
theorem dc_NL_readIfThere_32 : decode prog_6_method_3_code 32 = .ok (.aload_n 0, 1) := by decide +kernel
theorem dc_NL_readIfThere_33 : decode prog_6_method_3_code 33 = .ok (.dup, 1) := by decide +kernel
theorem dc_NL_readIfThere_34 : decode prog_6_method_3_code 34 = .ok (.getfield 18, 3) := by decide +kernel
theorem dc_NL_readIfThere_37 : decode prog_6_method_3_code 37 = .ok (.iconst 1, 1) := by decide +kernel
theorem dc_NL_readIfThere_38 : decode prog_6_method_3_code 38 = .ok (.iadd, 1) := by decide +kernel
theorem dc_NL_readIfThere_39 : decode prog_6_method_3_code 39 = .ok (.putfield 18, 3) := by decide +kernel
theorem dc_NL_readIfThere_42 : decode prog_6_method_3_code 42 = .ok (.aload_n 1, 1) := by decide +kernel
theorem dc_NL_readIfThere_43 : decode prog_6_method_3_code 43 = .ok (.invokevirtual 40, 3) := by decide +kernel
theorem dc_NL_readIfThere_46 : decode prog_6_method_3_code 46 = .ok (.ifCond .le 15, 3) := by decide +kernel
theorem dc_NL_readIfThere_49 : decode prog_6_method_3_code 49 = .ok (.aload_n 0, 1) := by decide +kernel
theorem dc_NL_readIfThere_50 : decode prog_6_method_3_code 50 = .ok (.getfield 18, 3) := by decide +kernel
theorem dc_NL_readIfThere_53 : decode prog_6_method_3_code 53 = .ok (.aload_n 0, 1) := by decide +kernel
theorem dc_NL_readIfThere_54 : decode prog_6_method_3_code 54 = .ok (.getfield 11, 3) := by decide +kernel
theorem dc_NL_readIfThere_57 : decode prog_6_method_3_code 57 = .ok (.arraylength, 1) := by decide +kernel
theorem dc_NL_readIfThere_58 : decode prog_6_method_3_code 58 = .ok (.if_icmp .lt (-39), 3) := by decide +kernel
theorem dc_NL_readIfThere_61 : decode prog_6_method_3_code 61 = .ok (.aload_n 1, 1) := by decide +kernel
theorem dc_NL_readIfThere_62 : decode prog_6_method_3_code 62 = .ok (.invokevirtual 44, 3) := by decide +kernel
theorem dc_NL_readIfThere_65 : decode prog_6_method_3_code 65 = .ok (.return_, 1) := by decide +kernel
theorem dc_NL_writeIfThere_0 : decode prog_6_method_4_code 0 = .ok (.aload_n 0, 1) := by decide +kernel
theorem dc_NL_writeIfThere_1 : decode prog_6_method_4_code 1 = .ok (.getfield 18, 3) := by decide +kernel
theorem dc_NL_writeIfThere_4 : decode prog_6_method_4_code 4 = .ok (.ifCond .ne 4, 3) := by decide +kernel
theorem dc_NL_writeIfThere_7 : decode prog_6_method_4_code 7 = .ok (.return_, 1) := by decide +kernel
theorem dc_NL_writeIfThere_8 : decode prog_6_method_4_code 8 = .ok (.aload_n 1, 1) := by decide +kernel
theorem dc_NL_writeIfThere_9 : decode prog_6_method_4_code 9 = .ok (.iload_n 2, 1) := by decide +kernel
theorem dc_NL_writeIfThere_10 : decode prog_6_method_4_code 10 = .ok (.invokevirtual 47, 3) := by decide +kernel
theorem dc_NL_writeIfThere_13 : decode prog_6_method_4_code 13 = .ok (.istore_n 3, 1) := by decide +kernel
theorem dc_NL_writeIfThere_14 : decode prog_6_method_4_code 14 = .ok (.iconst 0, 1) := by decide +kernel
theorem dc_NL_writeIfThere_15 : decode prog_6_method_4_code 15 = .ok (.istore 4, 2) := by decide +kernel
theorem dc_NL_writeIfThere_17 : decode prog_6_method_4_code 17 = .ok (.iload 4, 2) := by decide +kernel
theorem dc_NL_writeIfThere_19 : decode prog_6_method_4_code 19 = .ok (.aload_n 0, 1) := by decide +kernel
theorem dc_NL_writeIfThere_20 : decode prog_6_method_4_code 20 = .ok (.getfield 18, 3) := by decide +kernel
theorem dc_NL_writeIfThere_23 : decode prog_6_method_4_code 23 = .ok (.if_icmp .ge 20, 3) := by decide +kernel
theorem dc_NL_writeIfThere_26 : decode prog_6_method_4_code 26 = .ok (.aload_n 0, 1) := by decide +kernel
theorem dc_NL_writeIfThere_27 : decode prog_6_method_4_code 27 = .ok (.getfield 11, 3) := by decide +kernel
theorem dc_NL_writeIfThere_30 : decode prog_6_method_4_code 30 = .ok (.iload 4, 2) := by decide +kernel
theorem dc_NL_writeIfThere_32 : decode prog_6_method_4_code 32 = .ok (.aaload, 1) := by decide +kernel
theorem dc_NL_writeIfThere_33 : decode prog_6_method_4_code 33 = .ok (.aload_n 1, 1) := by decide +kernel
theorem dc_NL_writeIfThere_34 : decode prog_6_method_4_code 34 = .ok (.invokevirtual 53, 3) := by decide +kernel
theorem dc_NL_writeIfThere_37 : decode prog_6_method_4_code 37 = .ok (.iinc 4 1, 3) := by decide +kernel
theorem dc_NL_writeIfThere_40 : decode prog_6_method_4_code 40 = .ok (.goto (-23), 3) := by decide +kernel
theorem dc_NL_writeIfThere_43 : decode prog_6_method_4_code 43 = .ok (.aload_n 1, 1) := by decide +kernel
theorem dc_NL_writeIfThere_44 : decode prog_6_method_4_code 44 = .ok (.iload_n 3, 1) := by decide +kernel
theorem dc_NL_writeIfThere_45 : decode prog_6_method_4_code 45 = .ok (.invokevirtual 57, 3) := by decide +kernel
theorem dc_NL_writeIfThere_48 : decode prog_6_method_4_code 48 = .ok (.return_, 1) := by decide +kernel
end
section
/-! what each instruction is -/
theorem dc_CT_init_0 : decode prog_3_method_1_code 0 = .ok (.aload_n 0, 1) := by decide +kernel
theorem dc_CT_init_1 : decode prog_3_method_1_code 1 = .ok (.invokespecial 3, 3) := by decide +kernel
theorem dc_CT_init_4 : decode prog_3_method_1_code 4 = .ok (.aload_n 0, 1) := by decide +kernel
theorem dc_CT_init_5 : decode prog_3_method_1_code 5 = .ok (.new 9, 3) := by decide +kernel
theorem dc_CT_init_8 : decode prog_3_method_1_code 8 = .ok (.dup, 1) := by decide +kernel
theorem dc_CT_init_9 : decode prog_3_method_1_code 9 = .ok (.invokespecial 11, 3) := by decide +kernel
theorem dc_CT_init_12 : decode prog_3_method_1_code 12 = .ok (.putfield 12, 3) := by decide +kernel
theorem dc_CT_init_15 : decode prog_3_method_1_code 15 = .ok (.aload_n 0, 1) := by decide +kernel
theorem dc_CT_init_16 : decode prog_3_method_1_code 16 = .ok (.new 9, 3) := by decide +kernel
theorem dc_CT_init_19 : decode prog_3_method_1_code 19 = .ok (.dup, 1) := by decide +kernel
theorem dc_CT_init_20 : decode prog_3_method_1_code 20 = .ok (.invokespecial 11, 3) := by decide +kernel
theorem dc_CT_init_23 : decode prog_3_method_1_code 23 = .ok (.putfield 18, 3) := by decide +kernel
theorem dc_CT_init_26 : decode prog_3_method_1_code 26 = .ok (.aload_n 0, 1) := by decide +kernel
theorem dc_CT_init_27 : decode prog_3_method_1_code 27 = .ok (.iconst 4, 1) := by decide +kernel
theorem dc_CT_init_28 : decode prog_3_method_1_code 28 = .ok (.anewarray 21, 3) := by decide +kernel
theorem dc_CT_init_31 : decode prog_3_method_1_code 31 = .ok (.putfield 23, 3) := by decide +kernel
theorem dc_CT_init_34 : decode prog_3_method_1_code 34 = .ok (.iconst 0, 1) := by decide +kernel
theorem dc_CT_init_35 : decode prog_3_method_1_code 35 = .ok (.istore_n 1, 1) := by decide +kernel
theorem dc_CT_init_36 : decode prog_3_method_1_code 36 = .ok (.iload_n 1, 1) := by decide +kernel
theorem dc_CT_init_37 : decode prog_3_method_1_code 37 = .ok (.aload_n 0, 1) := by decide +kernel
theorem dc_CT_init_38 : decode prog_3_method_1_code 38 = .ok (.getfield 23, 3) := by decide +kernel
theorem dc_CT_init_41 : decode prog_3_method_1_code 41 = .ok (.arraylength, 1) := by decide +kernel
theorem dc_CT_init_42 : decode prog_3_method_1_code 42 = .ok (.if_icmp .ge 22, 3) := by decide +kernel
theorem dc_CT_init_45 : decode prog_3_method_1_code 45 = .ok (.aload_n 0, 1) := by decide +kernel
theorem dc_CT_init_46 : decode prog_3_method_1_code 46 = .ok (.getfield 23, 3) := by decide +kernel
theorem dc_CT_init_49 : decode prog_3_method_1_code 49 = .ok (.iload_n 1, 1) := by decide +kernel
theorem dc_CT_init_50 : decode prog_3_method_1_code 50 = .ok (.new 21, 3) := by decide +kernel
theorem dc_CT_init_53 : decode prog_3_method_1_code 53 = .ok (.dup, 1) := by decide +kernel
theorem dc_CT_init_54 : decode prog_3_method_1_code 54 = .ok (.invokespecial 27, 3) := by decide +kernel
theorem dc_CT_init_57 : decode prog_3_method_1_code 57 = .ok (.aastore, 1) := by decide +kernel
theorem dc_CT_init_58 : decode prog_3_method_1_code 58 = .ok (.iinc 1 1, 3) := by decide +kernel
theorem dc_CT_init_61 : decode prog_3_method_1_code 61 = .ok (.goto (-25), 3) := by decide +kernel
theorem dc_CT_init_64 : decode prog_3_method_1_code 64 = .ok (.aload_n 0, 1) := by decide +kernel
theorem dc_CT_init_65 : decode prog_3_method_1_code 65 = .ok (.new 28, 3) := by decide +kernel
theorem dc_CT_init_68 : decode prog_3_method_1_code 68 = .ok (.dup, 1) := by decide +kernel
theorem dc_CT_init_69 : decode prog_3_method_1_code 69 = .ok (.invokespecial 30, 3) := by decide +kernel
theorem dc_CT_init_72 : decode prog_3_method_1_code 72 = .ok (.putfield 31, 3) := by decide +kernel
theorem dc_CT_init_75 : decode prog_3_method_1_code 75 = .ok (.aload_n 0, 1) := by decide +kernel
theorem dc_CT_init_76 : decode prog_3_method_1_code 76 = .ok (.new 28, 3) := by decide +kernel
theorem dc_CT_init_79 : decode prog_3_method_1_code 79 = .ok (.dup, 1) := by decide +kernel
theorem dc_CT_init_80 : decode prog_3_method_1_code 80 = .ok (.invokespecial 30, 3) := by decide +kernel
theorem dc_CT_init_83 : decode prog_3_method_1_code 83 = .ok (.putfield 35, 3) := by decide +kernel
theorem dc_CT_init_86 : decode prog_3_method_1_code 86 = .ok (.aload_n 0, 1) := by decide +kernel
theorem dc_CT_init_87 : decode prog_3_method_1_code 87 = .ok (.invokevirtual 38, 3) := by decide +kernel
theorem dc_CT_init_90 : decode prog_3_method_1_code 90 = .ok (.return_, 1) := by decide +kernel
theorem dc_CT_forgetExtensions_0 : decode prog_3_method_2_code 0 = .ok (.aload_n 0, 1) := by decide +kernel
theorem dc_CT_forgetExtensions_1 : decode prog_3_method_2_code 1 = .ok (.iconst 0, 1) := by decide +kernel
theorem dc_CT_forgetExtensions_2 : decode prog_3_method_2_code 2 = .ok (.putfield 41, 3) := by decide +kernel
theorem dc_CT_forgetExtensions_5 : decode prog_3_method_2_code 5 = .ok (.aload_n 0, 1) := by decide +kernel
theorem dc_CT_forgetExtensions_6 : decode prog_3_method_2_code 6 = .ok (.iconst 0, 1) := by decide +kernel
theorem dc_CT_forgetExtensions_7 : decode prog_3_method_2_code 7 = .ok (.putfield 45, 3) := by decide +kernel
theorem dc_CT_forgetExtensions_10 : decode prog_3_method_2_code 10 = .ok (.aload_n 0, 1) := by decide +kernel
theorem dc_CT_forgetExtensions_11 : decode prog_3_method_2_code 11 = .ok (.iconst (-1), 1) := by decide +kernel
theorem dc_CT_forgetExtensions_12 : decode prog_3_method_2_code 12 = .ok (.putfield 49, 3) := by decide +kernel
theorem dc_CT_forgetExtensions_15 : decode prog_3_method_2_code 15 = .ok (.aload_n 0, 1) := by decide +kernel
theorem dc_CT_forgetExtensions_16 : decode prog_3_method_2_code 16 = .ok (.iconst (-1), 1) := by decide +kernel
theorem dc_CT_forgetExtensions_17 : decode prog_3_method_2_code 17 = .ok (.putfield 52, 3) := by decide +kernel
theorem dc_CT_forgetExtensions_20 : decode prog_3_method_2_code 20 = .ok (.aload_n 0, 1) := by decide +kernel
theorem dc_CT_forgetExtensions_21 : decode prog_3_method_2_code 21 = .ok (.getfield 31, 3) := by decide +kernel
theorem dc_CT_forgetExtensions_24 : decode prog_3_method_2_code 24 = .ok (.iconst 0, 1) := by decide +kernel
theorem dc_CT_forgetExtensions_25 : decode prog_3_method_2_code 25 = .ok (.putfield 55, 3) := by decide +kernel
theorem dc_CT_forgetExtensions_28 : decode prog_3_method_2_code 28 = .ok (.aload_n 0, 1) := by decide +kernel
theorem dc_CT_forgetExtensions_29 : decode prog_3_method_2_code 29 = .ok (.getfield 35, 3) := by decide +kernel
theorem dc_CT_forgetExtensions_32 : decode prog_3_method_2_code 32 = .ok (.iconst 0, 1) := by decide +kernel
theorem dc_CT_forgetExtensions_33 : decode prog_3_method_2_code 33 = .ok (.putfield 55, 3) := by decide +kernel
theorem dc_CT_forgetExtensions_36 : decode prog_3_method_2_code 36 = .ok (.return_, 1) := by decide +kernel
theorem dc_CT_fieldNumbered_0 : decode prog_3_method_3_code 0 = .ok (.iload_n 1, 1) := by decide +kernel
theorem dc_CT_fieldNumbered_1 : decode prog_3_method_3_code 1 = .ok (.tableswitch 170 0 14 #[75, 80, 85, 90, 95, 100, 105, 110, 123, 128, 133, 138, 146, 154, 162], 75) := by decide +kernel
theorem dc_CT_fieldNumbered_76 : decode prog_3_method_3_code 76 = .ok (.aload_n 0, 1) := by decide +kernel
theorem dc_CT_fieldNumbered_77 : decode prog_3_method_3_code 77 = .ok (.getfield 58, 3) := by decide +kernel
theorem dc_CT_fieldNumbered_80 : decode prog_3_method_3_code 80 = .ok (.ireturn, 1) := by decide +kernel
theorem dc_CT_fieldNumbered_81 : decode prog_3_method_3_code 81 = .ok (.aload_n 0, 1) := by decide +kernel
theorem dc_CT_fieldNumbered_82 : decode prog_3_method_3_code 82 = .ok (.getfield 61, 3) := by decide +kernel
theorem dc_CT_fieldNumbered_85 : decode prog_3_method_3_code 85 = .ok (.ireturn, 1) := by decide +kernel
theorem dc_CT_fieldNumbered_86 : decode prog_3_method_3_code 86 = .ok (.aload_n 0, 1) := by decide +kernel
theorem dc_CT_fieldNumbered_87 : decode prog_3_method_3_code 87 = .ok (.getfield 64, 3) := by decide +kernel
theorem dc_CT_fieldNumbered_90 : decode prog_3_method_3_code 90 = .ok (.ireturn, 1) := by decide +kernel
theorem dc_CT_fieldNumbered_91 : decode prog_3_method_3_code 91 = .ok (.aload_n 0, 1) := by decide +kernel
theorem dc_CT_fieldNumbered_92 : decode prog_3_method_3_code 92 = .ok (.getfield 67, 3) := by decide +kernel
theorem dc_CT_fieldNumbered_95 : decode prog_3_method_3_code 95 = .ok (.ireturn, 1) := by decide +kernel
theorem dc_CT_fieldNumbered_96 : decode prog_3_method_3_code 96 = .ok (.aload_n 0, 1) := by decide +kernel
theorem dc_CT_fieldNumbered_97 : decode prog_3_method_3_code 97 = .ok (.getfield 70, 3) := by decide +kernel
theorem dc_CT_fieldNumbered_100 : decode prog_3_method_3_code 100 = .ok (.ireturn, 1) := by decide +kernel
theorem dc_CT_fieldNumbered_101 : decode prog_3_method_3_code 101 = .ok (.aload_n 0, 1) := by decide +kernel
theorem dc_CT_fieldNumbered_102 : decode prog_3_method_3_code 102 = .ok (.getfield 73, 3) := by decide +kernel
theorem dc_CT_fieldNumbered_105 : decode prog_3_method_3_code 105 = .ok (.ireturn, 1) := by decide +kernel
theorem dc_CT_fieldNumbered_106 : decode prog_3_method_3_code 106 = .ok (.aload_n 0, 1) := by decide +kernel
theorem dc_CT_fieldNumbered_107 : decode prog_3_method_3_code 107 = .ok (.getfield 76, 3) := by decide +kernel
theorem dc_CT_fieldNumbered_110 : decode prog_3_method_3_code 110 = .ok (.ireturn, 1) := by decide +kernel
theorem dc_CT_fieldNumbered_111 : decode prog_3_method_3_code 111 = .ok (.aload_n 0, 1) := by decide +kernel
theorem dc_CT_fieldNumbered_112 : decode prog_3_method_3_code 112 = .ok (.getfield 45, 3) := by decide +kernel
theorem dc_CT_fieldNumbered_115 : decode prog_3_method_3_code 115 = .ok (.ifCond .eq 7, 3) := by decide +kernel
theorem dc_CT_fieldNumbered_118 : decode prog_3_method_3_code 118 = .ok (.iconst 1, 1) := by decide +kernel
theorem dc_CT_fieldNumbered_119 : decode prog_3_method_3_code 119 = .ok (.goto 4, 3) := by decide +kernel
theorem dc_CT_fieldNumbered_122 : decode prog_3_method_3_code 122 = .ok (.iconst 0, 1) := by decide +kernel
theorem dc_CT_fieldNumbered_123 : decode prog_3_method_3_code 123 = .ok (.ireturn, 1) := by decide +kernel
theorem dc_CT_fieldNumbered_124 : decode prog_3_method_3_code 124 = .ok (.aload_n 0, 1) := by decide +kernel
theorem dc_CT_fieldNumbered_125 : decode prog_3_method_3_code 125 = .ok (.getfield 49, 3) := by decide +kernel
theorem dc_CT_fieldNumbered_128 : decode prog_3_method_3_code 128 = .ok (.ireturn, 1) := by decide +kernel
theorem dc_CT_fieldNumbered_129 : decode prog_3_method_3_code 129 = .ok (.aload_n 0, 1) := by decide +kernel
theorem dc_CT_fieldNumbered_130 : decode prog_3_method_3_code 130 = .ok (.getfield 52, 3) := by decide +kernel
theorem dc_CT_fieldNumbered_133 : decode prog_3_method_3_code 133 = .ok (.ireturn, 1) := by decide +kernel
theorem dc_CT_fieldNumbered_134 : decode prog_3_method_3_code 134 = .ok (.aload_n 0, 1) := by decide +kernel
theorem dc_CT_fieldNumbered_135 : decode prog_3_method_3_code 135 = .ok (.getfield 41, 3) := by decide +kernel
theorem dc_CT_fieldNumbered_138 : decode prog_3_method_3_code 138 = .ok (.ireturn, 1) := by decide +kernel
theorem dc_CT_fieldNumbered_139 : decode prog_3_method_3_code 139 = .ok (.aload_n 0, 1) := by decide +kernel
theorem dc_CT_fieldNumbered_140 : decode prog_3_method_3_code 140 = .ok (.getfield 31, 3) := by decide +kernel
theorem dc_CT_fieldNumbered_143 : decode prog_3_method_3_code 143 = .ok (.getfield 55, 3) := by decide +kernel
theorem dc_CT_fieldNumbered_146 : decode prog_3_method_3_code 146 = .ok (.ireturn, 1) := by decide +kernel
theorem dc_CT_fieldNumbered_147 : decode prog_3_method_3_code 147 = .ok (.aload_n 0, 1) := by decide +kernel
theorem dc_CT_fieldNumbered_148 : decode prog_3_method_3_code 148 = .ok (.getfield 35, 3) := by decide +kernel
theorem dc_CT_fieldNumbered_151 : decode prog_3_method_3_code 151 = .ok (.getfield 55, 3) := by decide +kernel
theorem dc_CT_fieldNumbered_154 : decode prog_3_method_3_code 154 = .ok (.ireturn, 1) := by decide +kernel
theorem dc_CT_fieldNumbered_155 : decode prog_3_method_3_code 155 = .ok (.aload_n 0, 1) := by decide +kernel
theorem dc_CT_fieldNumbered_156 : decode prog_3_method_3_code 156 = .ok (.getfield 12, 3) := by decide +kernel
theorem dc_CT_fieldNumbered_159 : decode prog_3_method_3_code 159 = .ok (.getfield 79, 3) := by decide +kernel
theorem dc_CT_fieldNumbered_162 : decode prog_3_method_3_code 162 = .ok (.ireturn, 1) := by decide +kernel
theorem dc_CT_fieldNumbered_163 : decode prog_3_method_3_code 163 = .ok (.aload_n 0, 1) := by decide +kernel
theorem dc_CT_fieldNumbered_164 : decode prog_3_method_3_code 164 = .ok (.getfield 18, 3) := by decide +kernel
theorem dc_CT_fieldNumbered_167 : decode prog_3_method_3_code 167 = .ok (.getfield 79, 3) := by decide +kernel
theorem dc_CT_fieldNumbered_170 : decode prog_3_method_3_code 170 = .ok (.ireturn, 1) := by decide +kernel
theorem dc_CT_fieldNumbered_171 : decode prog_3_method_3_code 171 = .ok (.iconst (-1), 1) := by decide +kernel
theorem dc_CT_fieldNumbered_172 : decode prog_3_method_3_code 172 = .ok (.ireturn, 1) := by decide +kernel
theorem dc_CT_isSelfIssued_0 : decode prog_3_method_4_code 0 = .ok (.aload_n 0, 1) := by decide +kernel
theorem dc_CT_isSelfIssued_1 : decode prog_3_method_4_code 1 = .ok (.getfield 12, 3) := by decide +kernel
theorem dc_CT_isSelfIssued_4 : decode prog_3_method_4_code 4 = .ok (.aload_n 0, 1) := by decide +kernel
theorem dc_CT_isSelfIssued_5 : decode prog_3_method_4_code 5 = .ok (.getfield 18, 3) := by decide +kernel
theorem dc_CT_isSelfIssued_8 : decode prog_3_method_4_code 8 = .ok (.invokevirtual 80, 3) := by decide +kernel
theorem dc_CT_isSelfIssued_11 : decode prog_3_method_4_code 11 = .ok (.ireturn, 1) := by decide +kernel
theorem dc_CT_isSignedBy_0 : decode prog_3_method_5_code 0 = .ok (.iload_n 1, 1) := by decide +kernel
theorem dc_CT_isSignedBy_1 : decode prog_3_method_5_code 1 = .ok (.iconst 2, 1) := by decide +kernel
theorem dc_CT_isSignedBy_2 : decode prog_3_method_5_code 2 = .ok (.if_icmp .lt 11, 3) := by decide +kernel
theorem dc_CT_isSignedBy_5 : decode prog_3_method_5_code 5 = .ok (.aload_n 0, 1) := by decide +kernel
theorem dc_CT_isSignedBy_6 : decode prog_3_method_5_code 6 = .ok (.getfield 73, 3) := by decide +kernel
theorem dc_CT_isSignedBy_9 : decode prog_3_method_5_code 9 = .ok (.iload_n 1, 1) := by decide +kernel
theorem dc_CT_isSignedBy_10 : decode prog_3_method_5_code 10 = .ok (.if_icmp .lt 5, 3) := by decide +kernel
theorem dc_CT_isSignedBy_13 : decode prog_3_method_5_code 13 = .ok (.iconst 0, 1) := by decide +kernel
theorem dc_CT_isSignedBy_14 : decode prog_3_method_5_code 14 = .ok (.ireturn, 1) := by decide +kernel
theorem dc_CT_isSignedBy_15 : decode prog_3_method_5_code 15 = .ok (.lconst 1, 1) := by decide +kernel
theorem dc_CT_isSignedBy_16 : decode prog_3_method_5_code 16 = .ok (.lstore_n 3, 1) := by decide +kernel
theorem dc_CT_isSignedBy_17 : decode prog_3_method_5_code 17 = .ok (.aload_n 0, 1) := by decide +kernel
theorem dc_CT_isSignedBy_18 : decode prog_3_method_5_code 18 = .ok (.getfield 73, 3) := by decide +kernel
theorem dc_CT_isSignedBy_21 : decode prog_3_method_5_code 21 = .ok (.i2l, 1) := by decide +kernel
theorem dc_CT_isSignedBy_22 : decode prog_3_method_5_code 22 = .ok (.lstore 5, 2) := by decide +kernel
theorem dc_CT_isSignedBy_24 : decode prog_3_method_5_code 24 = .ok (.iload_n 2, 1) := by decide +kernel
theorem dc_CT_isSignedBy_25 : decode prog_3_method_5_code 25 = .ok (.istore 7, 2) := by decide +kernel
theorem dc_CT_isSignedBy_27 : decode prog_3_method_5_code 27 = .ok (.iload 7, 2) := by decide +kernel
theorem dc_CT_isSignedBy_29 : decode prog_3_method_5_code 29 = .ok (.ifCond .le 38, 3) := by decide +kernel
theorem dc_CT_isSignedBy_32 : decode prog_3_method_5_code 32 = .ok (.iload 7, 2) := by decide +kernel
theorem dc_CT_isSignedBy_34 : decode prog_3_method_5_code 34 = .ok (.iconst 1, 1) := by decide +kernel
theorem dc_CT_isSignedBy_35 : decode prog_3_method_5_code 35 = .ok (.iand, 1) := by decide +kernel
theorem dc_CT_isSignedBy_36 : decode prog_3_method_5_code 36 = .ok (.iconst 1, 1) := by decide +kernel
theorem dc_CT_isSignedBy_37 : decode prog_3_method_5_code 37 = .ok (.if_icmp .ne 11, 3) := by decide +kernel
theorem dc_CT_isSignedBy_40 : decode prog_3_method_5_code 40 = .ok (.lload_n 3, 1) := by decide +kernel
theorem dc_CT_isSignedBy_41 : decode prog_3_method_5_code 41 = .ok (.lload 5, 2) := by decide +kernel
theorem dc_CT_isSignedBy_43 : decode prog_3_method_5_code 43 = .ok (.lmul, 1) := by decide +kernel
theorem dc_CT_isSignedBy_44 : decode prog_3_method_5_code 44 = .ok (.iload_n 1, 1) := by decide +kernel
theorem dc_CT_isSignedBy_45 : decode prog_3_method_5_code 45 = .ok (.i2l, 1) := by decide +kernel
theorem dc_CT_isSignedBy_46 : decode prog_3_method_5_code 46 = .ok (.lrem, 1) := by decide +kernel
theorem dc_CT_isSignedBy_47 : decode prog_3_method_5_code 47 = .ok (.lstore_n 3, 1) := by decide +kernel
theorem dc_CT_isSignedBy_48 : decode prog_3_method_5_code 48 = .ok (.lload 5, 2) := by decide +kernel
theorem dc_CT_isSignedBy_50 : decode prog_3_method_5_code 50 = .ok (.lload 5, 2) := by decide +kernel
theorem dc_CT_isSignedBy_52 : decode prog_3_method_5_code 52 = .ok (.lmul, 1) := by decide +kernel
theorem dc_CT_isSignedBy_53 : decode prog_3_method_5_code 53 = .ok (.iload_n 1, 1) := by decide +kernel
theorem dc_CT_isSignedBy_54 : decode prog_3_method_5_code 54 = .ok (.i2l, 1) := by decide +kernel
theorem dc_CT_isSignedBy_55 : decode prog_3_method_5_code 55 = .ok (.lrem, 1) := by decide +kernel
theorem dc_CT_isSignedBy_56 : decode prog_3_method_5_code 56 = .ok (.lstore 5, 2) := by decide +kernel
theorem dc_CT_isSignedBy_58 : decode prog_3_method_5_code 58 = .ok (.iload 7, 2) := by decide +kernel
theorem dc_CT_isSignedBy_60 : decode prog_3_method_5_code 60 = .ok (.iconst 1, 1) := by decide +kernel
theorem dc_CT_isSignedBy_61 : decode prog_3_method_5_code 61 = .ok (.ishr, 1) := by decide +kernel
theorem dc_CT_isSignedBy_62 : decode prog_3_method_5_code 62 = .ok (.istore 7, 2) := by decide +kernel
theorem dc_CT_isSignedBy_64 : decode prog_3_method_5_code 64 = .ok (.goto (-37), 3) := by decide +kernel
theorem dc_CT_isSignedBy_67 : decode prog_3_method_5_code 67 = .ok (.lload_n 3, 1) := by decide +kernel
theorem dc_CT_isSignedBy_68 : decode prog_3_method_5_code 68 = .ok (.aload_n 0, 1) := by decide +kernel
theorem dc_CT_isSignedBy_69 : decode prog_3_method_5_code 69 = .ok (.getfield 76, 3) := by decide +kernel
theorem dc_CT_isSignedBy_72 : decode prog_3_method_5_code 72 = .ok (.iload_n 1, 1) := by decide +kernel
theorem dc_CT_isSignedBy_73 : decode prog_3_method_5_code 73 = .ok (.irem, 1) := by decide +kernel
theorem dc_CT_isSignedBy_74 : decode prog_3_method_5_code 74 = .ok (.i2l, 1) := by decide +kernel
theorem dc_CT_isSignedBy_75 : decode prog_3_method_5_code 75 = .ok (.lcmp, 1) := by decide +kernel
theorem dc_CT_isSignedBy_76 : decode prog_3_method_5_code 76 = .ok (.ifCond .ne 7, 3) := by decide +kernel
theorem dc_CT_isSignedBy_79 : decode prog_3_method_5_code 79 = .ok (.iconst 1, 1) := by decide +kernel
theorem dc_CT_isSignedBy_80 : decode prog_3_method_5_code 80 = .ok (.goto 4, 3) := by decide +kernel
theorem dc_CT_isSignedBy_83 : decode prog_3_method_5_code 83 = .ok (.iconst 0, 1) := by decide +kernel
theorem dc_CT_isSignedBy_84 : decode prog_3_method_5_code 84 = .ok (.ireturn, 1) := by decide +kernel
theorem dc_CT_hasUnknownCritical_0 : decode prog_3_method_6_code 0 = .ok (.iconst 0, 1) := by decide +kernel
theorem dc_CT_hasUnknownCritical_1 : decode prog_3_method_6_code 1 = .ok (.istore_n 1, 1) := by decide +kernel
theorem dc_CT_hasUnknownCritical_2 : decode prog_3_method_6_code 2 = .ok (.iload_n 1, 1) := by decide +kernel
theorem dc_CT_hasUnknownCritical_3 : decode prog_3_method_6_code 3 = .ok (.aload_n 0, 1) := by decide +kernel
theorem dc_CT_hasUnknownCritical_4 : decode prog_3_method_6_code 4 = .ok (.getfield 41, 3) := by decide +kernel
theorem dc_CT_hasUnknownCritical_7 : decode prog_3_method_6_code 7 = .ok (.if_icmp .ge 35, 3) := by decide +kernel
theorem dc_CT_hasUnknownCritical_10 : decode prog_3_method_6_code 10 = .ok (.aload_n 0, 1) := by decide +kernel
theorem dc_CT_hasUnknownCritical_11 : decode prog_3_method_6_code 11 = .ok (.getfield 23, 3) := by decide +kernel
theorem dc_CT_hasUnknownCritical_14 : decode prog_3_method_6_code 14 = .ok (.iload_n 1, 1) := by decide +kernel
theorem dc_CT_hasUnknownCritical_15 : decode prog_3_method_6_code 15 = .ok (.aaload, 1) := by decide +kernel
theorem dc_CT_hasUnknownCritical_16 : decode prog_3_method_6_code 16 = .ok (.getfield 84, 3) := by decide +kernel
theorem dc_CT_hasUnknownCritical_19 : decode prog_3_method_6_code 19 = .ok (.ifCond .eq 17, 3) := by decide +kernel
theorem dc_CT_hasUnknownCritical_22 : decode prog_3_method_6_code 22 = .ok (.aload_n 0, 1) := by decide +kernel
theorem dc_CT_hasUnknownCritical_23 : decode prog_3_method_6_code 23 = .ok (.getfield 23, 3) := by decide +kernel
theorem dc_CT_hasUnknownCritical_26 : decode prog_3_method_6_code 26 = .ok (.iload_n 1, 1) := by decide +kernel
theorem dc_CT_hasUnknownCritical_27 : decode prog_3_method_6_code 27 = .ok (.aaload, 1) := by decide +kernel
theorem dc_CT_hasUnknownCritical_28 : decode prog_3_method_6_code 28 = .ok (.invokevirtual 87, 3) := by decide +kernel
theorem dc_CT_hasUnknownCritical_31 : decode prog_3_method_6_code 31 = .ok (.ifCond .ne 5, 3) := by decide +kernel
theorem dc_CT_hasUnknownCritical_34 : decode prog_3_method_6_code 34 = .ok (.iconst 1, 1) := by decide +kernel
theorem dc_CT_hasUnknownCritical_35 : decode prog_3_method_6_code 35 = .ok (.ireturn, 1) := by decide +kernel
theorem dc_CT_hasUnknownCritical_36 : decode prog_3_method_6_code 36 = .ok (.iinc 1 1, 3) := by decide +kernel
theorem dc_CT_hasUnknownCritical_39 : decode prog_3_method_6_code 39 = .ok (.goto (-37), 3) := by decide +kernel
theorem dc_CT_hasUnknownCritical_42 : decode prog_3_method_6_code 42 = .ok (.iconst 0, 1) := by decide +kernel
theorem dc_CT_hasUnknownCritical_43 : decode prog_3_method_6_code 43 = .ok (.ireturn, 1) := by decide +kernel
theorem dc_CT_allows_0 : decode prog_3_method_7_code 0 = .ok (.aload_n 0, 1) := by decide +kernel
theorem dc_CT_allows_1 : decode prog_3_method_7_code 1 = .ok (.getfield 31, 3) := by decide +kernel
theorem dc_CT_allows_4 : decode prog_3_method_7_code 4 = .ok (.getfield 55, 3) := by decide +kernel
theorem dc_CT_allows_7 : decode prog_3_method_7_code 7 = .ok (.ifCond .eq 14, 3) := by decide +kernel
theorem dc_CT_allows_10 : decode prog_3_method_7_code 10 = .ok (.aload_n 0, 1) := by decide +kernel
theorem dc_CT_allows_11 : decode prog_3_method_7_code 11 = .ok (.getfield 31, 3) := by decide +kernel
theorem dc_CT_allows_14 : decode prog_3_method_7_code 14 = .ok (.aload_n 1, 1) := by decide +kernel
theorem dc_CT_allows_15 : decode prog_3_method_7_code 15 = .ok (.invokevirtual 91, 3) := by decide +kernel
theorem dc_CT_allows_18 : decode prog_3_method_7_code 18 = .ok (.ifCond .eq 18, 3) := by decide +kernel
theorem dc_CT_allows_21 : decode prog_3_method_7_code 21 = .ok (.aload_n 0, 1) := by decide +kernel
theorem dc_CT_allows_22 : decode prog_3_method_7_code 22 = .ok (.getfield 35, 3) := by decide +kernel
theorem dc_CT_allows_25 : decode prog_3_method_7_code 25 = .ok (.aload_n 1, 1) := by decide +kernel
theorem dc_CT_allows_26 : decode prog_3_method_7_code 26 = .ok (.invokevirtual 91, 3) := by decide +kernel
theorem dc_CT_allows_29 : decode prog_3_method_7_code 29 = .ok (.ifCond .ne 7, 3) := by decide +kernel
theorem dc_CT_allows_32 : decode prog_3_method_7_code 32 = .ok (.iconst 1, 1) := by decide +kernel
theorem dc_CT_allows_33 : decode prog_3_method_7_code 33 = .ok (.goto 4, 3) := by decide +kernel
theorem dc_CT_allows_36 : decode prog_3_method_7_code 36 = .ok (.iconst 0, 1) := by decide +kernel
theorem dc_CT_allows_37 : decode prog_3_method_7_code 37 = .ok (.ireturn, 1) := by decide +kernel
theorem dc_CT_brokenAsHolder_0 : decode prog_3_method_8_code 0 = .ok (.aload_n 0, 1) := by decide +kernel
theorem dc_CT_brokenAsHolder_1 : decode prog_3_method_8_code 1 = .ok (.getfield 45, 3) := by decide +kernel
theorem dc_CT_brokenAsHolder_4 : decode prog_3_method_8_code 4 = .ok (.ifCond .ne 6, 3) := by decide +kernel
theorem dc_CT_brokenAsHolder_7 : decode prog_3_method_8_code 7 = .ok (.bipush 6, 2) := by decide +kernel
theorem dc_CT_brokenAsHolder_9 : decode prog_3_method_8_code 9 = .ok (.ireturn, 1) := by decide +kernel
theorem dc_CT_brokenAsHolder_10 : decode prog_3_method_8_code 10 = .ok (.aload_n 0, 1) := by decide +kernel
theorem dc_CT_brokenAsHolder_11 : decode prog_3_method_8_code 11 = .ok (.invokevirtual 94, 3) := by decide +kernel
theorem dc_CT_brokenAsHolder_14 : decode prog_3_method_8_code 14 = .ok (.ifCond .ne 10, 3) := by decide +kernel
theorem dc_CT_brokenAsHolder_17 : decode prog_3_method_8_code 17 = .ok (.iload_n 1, 1) := by decide +kernel
theorem dc_CT_brokenAsHolder_18 : decode prog_3_method_8_code 18 = .ok (.ifCond .gt 6, 3) := by decide +kernel
theorem dc_CT_brokenAsHolder_21 : decode prog_3_method_8_code 21 = .ok (.bipush 7, 2) := by decide +kernel
theorem dc_CT_brokenAsHolder_23 : decode prog_3_method_8_code 23 = .ok (.ireturn, 1) := by decide +kernel
theorem dc_CT_brokenAsHolder_24 : decode prog_3_method_8_code 24 = .ok (.aload_n 0, 1) := by decide +kernel
theorem dc_CT_brokenAsHolder_25 : decode prog_3_method_8_code 25 = .ok (.getfield 52, 3) := by decide +kernel
theorem dc_CT_brokenAsHolder_28 : decode prog_3_method_8_code 28 = .ok (.iconst (-1), 1) := by decide +kernel
theorem dc_CT_brokenAsHolder_29 : decode prog_3_method_8_code 29 = .ok (.if_icmp .eq 18, 3) := by decide +kernel
theorem dc_CT_brokenAsHolder_32 : decode prog_3_method_8_code 32 = .ok (.aload_n 0, 1) := by decide +kernel
theorem dc_CT_brokenAsHolder_33 : decode prog_3_method_8_code 33 = .ok (.getfield 52, 3) := by decide +kernel
theorem dc_CT_brokenAsHolder_36 : decode prog_3_method_8_code 36 = .ok (.bipush 32, 2) := by decide +kernel
theorem dc_CT_brokenAsHolder_38 : decode prog_3_method_8_code 38 = .ok (.iand, 1) := by decide +kernel
theorem dc_CT_brokenAsHolder_39 : decode prog_3_method_8_code 39 = .ok (.ifCond .ne 8, 3) := by decide +kernel
theorem dc_CT_brokenAsHolder_42 : decode prog_3_method_8_code 42 = .ok (.bipush 8, 2) := by decide +kernel
theorem dc_CT_brokenAsHolder_44 : decode prog_3_method_8_code 44 = .ok (.goto 4, 3) := by decide +kernel
theorem dc_CT_brokenAsHolder_47 : decode prog_3_method_8_code 47 = .ok (.iconst 0, 1) := by decide +kernel
theorem dc_CT_brokenAsHolder_48 : decode prog_3_method_8_code 48 = .ok (.ireturn, 1) := by decide +kernel
theorem dc_CT_brokenAsLast_0 : decode prog_3_method_9_code 0 = .ok (.aload_n 0, 1) := by decide +kernel
theorem dc_CT_brokenAsLast_1 : decode prog_3_method_9_code 1 = .ok (.getfield 52, 3) := by decide +kernel
theorem dc_CT_brokenAsLast_4 : decode prog_3_method_9_code 4 = .ok (.iconst (-1), 1) := by decide +kernel
theorem dc_CT_brokenAsLast_5 : decode prog_3_method_9_code 5 = .ok (.if_icmp .eq 18, 3) := by decide +kernel
theorem dc_CT_brokenAsLast_8 : decode prog_3_method_9_code 8 = .ok (.aload_n 0, 1) := by decide +kernel
theorem dc_CT_brokenAsLast_9 : decode prog_3_method_9_code 9 = .ok (.getfield 52, 3) := by decide +kernel
theorem dc_CT_brokenAsLast_12 : decode prog_3_method_9_code 12 = .ok (.iload_n 1, 1) := by decide +kernel
theorem dc_CT_brokenAsLast_13 : decode prog_3_method_9_code 13 = .ok (.iand, 1) := by decide +kernel
theorem dc_CT_brokenAsLast_14 : decode prog_3_method_9_code 14 = .ok (.iload_n 1, 1) := by decide +kernel
theorem dc_CT_brokenAsLast_15 : decode prog_3_method_9_code 15 = .ok (.if_icmp .eq 8, 3) := by decide +kernel
theorem dc_CT_brokenAsLast_18 : decode prog_3_method_9_code 18 = .ok (.bipush 9, 2) := by decide +kernel
theorem dc_CT_brokenAsLast_20 : decode prog_3_method_9_code 20 = .ok (.goto 4, 3) := by decide +kernel
theorem dc_CT_brokenAsLast_23 : decode prog_3_method_9_code 23 = .ok (.iconst 0, 1) := by decide +kernel
theorem dc_CT_brokenAsLast_24 : decode prog_3_method_9_code 24 = .ok (.ireturn, 1) := by decide +kernel
theorem dc_CT_restBehind_0 : decode prog_3_method_10_code 0 = .ok (.aload_n 0, 1) := by decide +kernel
theorem dc_CT_restBehind_1 : decode prog_3_method_10_code 1 = .ok (.invokevirtual 94, 3) := by decide +kernel
theorem dc_CT_restBehind_4 : decode prog_3_method_10_code 4 = .ok (.ifCond .eq 7, 3) := by decide +kernel
theorem dc_CT_restBehind_7 : decode prog_3_method_10_code 7 = .ok (.iload_n 1, 1) := by decide +kernel
theorem dc_CT_restBehind_8 : decode prog_3_method_10_code 8 = .ok (.goto 6, 3) := by decide +kernel
theorem dc_CT_restBehind_11 : decode prog_3_method_10_code 11 = .ok (.iload_n 1, 1) := by decide +kernel
theorem dc_CT_restBehind_12 : decode prog_3_method_10_code 12 = .ok (.iconst 1, 1) := by decide +kernel
theorem dc_CT_restBehind_13 : decode prog_3_method_10_code 13 = .ok (.isub, 1) := by decide +kernel
theorem dc_CT_restBehind_14 : decode prog_3_method_10_code 14 = .ok (.istore_n 2, 1) := by decide +kernel
theorem dc_CT_restBehind_15 : decode prog_3_method_10_code 15 = .ok (.aload_n 0, 1) := by decide +kernel
theorem dc_CT_restBehind_16 : decode prog_3_method_10_code 16 = .ok (.getfield 49, 3) := by decide +kernel
theorem dc_CT_restBehind_19 : decode prog_3_method_10_code 19 = .ok (.iconst (-1), 1) := by decide +kernel
theorem dc_CT_restBehind_20 : decode prog_3_method_10_code 20 = .ok (.if_icmp .eq 18, 3) := by decide +kernel
theorem dc_CT_restBehind_23 : decode prog_3_method_10_code 23 = .ok (.aload_n 0, 1) := by decide +kernel
theorem dc_CT_restBehind_24 : decode prog_3_method_10_code 24 = .ok (.getfield 49, 3) := by decide +kernel
theorem dc_CT_restBehind_27 : decode prog_3_method_10_code 27 = .ok (.iload_n 2, 1) := by decide +kernel
theorem dc_CT_restBehind_28 : decode prog_3_method_10_code 28 = .ok (.if_icmp .ge 10, 3) := by decide +kernel
theorem dc_CT_restBehind_31 : decode prog_3_method_10_code 31 = .ok (.aload_n 0, 1) := by decide +kernel
theorem dc_CT_restBehind_32 : decode prog_3_method_10_code 32 = .ok (.getfield 49, 3) := by decide +kernel
theorem dc_CT_restBehind_35 : decode prog_3_method_10_code 35 = .ok (.goto 4, 3) := by decide +kernel
theorem dc_CT_restBehind_38 : decode prog_3_method_10_code 38 = .ok (.iload_n 2, 1) := by decide +kernel
theorem dc_CT_restBehind_39 : decode prog_3_method_10_code 39 = .ok (.ireturn, 1) := by decide +kernel
theorem dc_CT_readFrom_0 : decode prog_3_method_11_code 0 = .ok (.aload_n 0, 1) := by decide +kernel
theorem dc_CT_readFrom_1 : decode prog_3_method_11_code 1 = .ok (.invokevirtual 38, 3) := by decide +kernel
theorem dc_CT_readFrom_4 : decode prog_3_method_11_code 4 = .ok (.aload_n 1, 1) := by decide +kernel
theorem dc_CT_readFrom_5 : decode prog_3_method_11_code 5 = .ok (.invokevirtual 97, 3) := by decide +kernel
theorem dc_CT_readFrom_8 : decode prog_3_method_11_code 8 = .ok (.aload_n 1, 1) := by decide +kernel
theorem dc_CT_readFrom_9 : decode prog_3_method_11_code 9 = .ok (.bipush 48, 2) := by decide +kernel
theorem dc_CT_readFrom_11 : decode prog_3_method_11_code 11 = .ok (.invokevirtual 102, 3) := by decide +kernel
theorem dc_CT_readFrom_14 : decode prog_3_method_11_code 14 = .ok (.aload_n 1, 1) := by decide +kernel
theorem dc_CT_readFrom_15 : decode prog_3_method_11_code 15 = .ok (.getfield 106, 3) := by decide +kernel
theorem dc_CT_readFrom_18 : decode prog_3_method_11_code 18 = .ok (.istore_n 2, 1) := by decide +kernel
theorem dc_CT_readFrom_19 : decode prog_3_method_11_code 19 = .ok (.aload_n 1, 1) := by decide +kernel
theorem dc_CT_readFrom_20 : decode prog_3_method_11_code 20 = .ok (.bipush 48, 2) := by decide +kernel
theorem dc_CT_readFrom_22 : decode prog_3_method_11_code 22 = .ok (.invokevirtual 102, 3) := by decide +kernel
theorem dc_CT_readFrom_25 : decode prog_3_method_11_code 25 = .ok (.aload_n 0, 1) := by decide +kernel
theorem dc_CT_readFrom_26 : decode prog_3_method_11_code 26 = .ok (.aload_n 1, 1) := by decide +kernel
theorem dc_CT_readFrom_27 : decode prog_3_method_11_code 27 = .ok (.invokevirtual 109, 3) := by decide +kernel
theorem dc_CT_readFrom_30 : decode prog_3_method_11_code 30 = .ok (.aload_n 1, 1) := by decide +kernel
theorem dc_CT_readFrom_31 : decode prog_3_method_11_code 31 = .ok (.sipush 163, 3) := by decide +kernel
theorem dc_CT_readFrom_34 : decode prog_3_method_11_code 34 = .ok (.invokevirtual 113, 3) := by decide +kernel
theorem dc_CT_readFrom_37 : decode prog_3_method_11_code 37 = .ok (.ifCond .eq 67, 3) := by decide +kernel
theorem dc_CT_readFrom_40 : decode prog_3_method_11_code 40 = .ok (.aload_n 1, 1) := by decide +kernel
theorem dc_CT_readFrom_41 : decode prog_3_method_11_code 41 = .ok (.sipush 163, 3) := by decide +kernel
theorem dc_CT_readFrom_44 : decode prog_3_method_11_code 44 = .ok (.invokevirtual 102, 3) := by decide +kernel
theorem dc_CT_readFrom_47 : decode prog_3_method_11_code 47 = .ok (.aload_n 1, 1) := by decide +kernel
theorem dc_CT_readFrom_48 : decode prog_3_method_11_code 48 = .ok (.bipush 48, 2) := by decide +kernel
theorem dc_CT_readFrom_50 : decode prog_3_method_11_code 50 = .ok (.invokevirtual 102, 3) := by decide +kernel
theorem dc_CT_readFrom_53 : decode prog_3_method_11_code 53 = .ok (.aload_n 0, 1) := by decide +kernel
theorem dc_CT_readFrom_54 : decode prog_3_method_11_code 54 = .ok (.aload_n 1, 1) := by decide +kernel
theorem dc_CT_readFrom_55 : decode prog_3_method_11_code 55 = .ok (.aload_n 0, 1) := by decide +kernel
theorem dc_CT_readFrom_56 : decode prog_3_method_11_code 56 = .ok (.getfield 23, 3) := by decide +kernel
theorem dc_CT_readFrom_59 : decode prog_3_method_11_code 59 = .ok (.aload_n 0, 1) := by decide +kernel
theorem dc_CT_readFrom_60 : decode prog_3_method_11_code 60 = .ok (.getfield 41, 3) := by decide +kernel
theorem dc_CT_readFrom_63 : decode prog_3_method_11_code 63 = .ok (.aaload, 1) := by decide +kernel
theorem dc_CT_readFrom_64 : decode prog_3_method_11_code 64 = .ok (.invokevirtual 117, 3) := by decide +kernel
theorem dc_CT_readFrom_67 : decode prog_3_method_11_code 67 = .ok (.aload_n 0, 1) := by decide +kernel
theorem dc_CT_readFrom_68 : decode prog_3_method_11_code 68 = .ok (.dup, 1) := by decide +kernel
theorem dc_CT_readFrom_69 : decode prog_3_method_11_code 69 = .ok (.getfield 41, 3) := by decide +kernel
theorem dc_CT_readFrom_72 : decode prog_3_method_11_code 72 = .ok (.iconst 1, 1) := by decide +kernel
theorem dc_CT_readFrom_73 : decode prog_3_method_11_code 73 = .ok (.iadd, 1) := by decide +kernel
theorem dc_CT_readFrom_74 : decode prog_3_method_11_code 74 = .ok (.putfield 41, 3) := by decide +kernel
theorem dc_CT_readFrom_77 : decode prog_3_method_11_code 77 = .ok (.aload_n 1, 1) := by decide +kernel
theorem dc_CT_readFrom_78 : decode prog_3_method_11_code 78 = .ok (.invokevirtual 121, 3) := by decide +kernel
theorem dc_CT_readFrom_81 : decode prog_3_method_11_code 81 = .ok (.ifCond .le 15, 3) := by decide +kernel
theorem dc_CT_readFrom_84 : decode prog_3_method_11_code 84 = .ok (.aload_n 0, 1) := by decide +kernel
theorem dc_CT_readFrom_85 : decode prog_3_method_11_code 85 = .ok (.getfield 41, 3) := by decide +kernel
theorem dc_CT_readFrom_88 : decode prog_3_method_11_code 88 = .ok (.aload_n 0, 1) := by decide +kernel
theorem dc_CT_readFrom_89 : decode prog_3_method_11_code 89 = .ok (.getfield 23, 3) := by decide +kernel
theorem dc_CT_readFrom_92 : decode prog_3_method_11_code 92 = .ok (.arraylength, 1) := by decide +kernel
theorem dc_CT_readFrom_93 : decode prog_3_method_11_code 93 = .ok (.if_icmp .lt (-40), 3) := by decide +kernel
theorem dc_CT_readFrom_96 : decode prog_3_method_11_code 96 = .ok (.aload_n 1, 1) := by decide +kernel
theorem dc_CT_readFrom_97 : decode prog_3_method_11_code 97 = .ok (.invokevirtual 125, 3) := by decide +kernel
theorem dc_CT_readFrom_100 : decode prog_3_method_11_code 100 = .ok (.aload_n 1, 1) := by decide +kernel
theorem dc_CT_readFrom_101 : decode prog_3_method_11_code 101 = .ok (.invokevirtual 125, 3) := by decide +kernel
theorem dc_CT_readFrom_104 : decode prog_3_method_11_code 104 = .ok (.aload_n 1, 1) := by decide +kernel
theorem dc_CT_readFrom_105 : decode prog_3_method_11_code 105 = .ok (.invokevirtual 125, 3) := by decide +kernel
theorem dc_CT_readFrom_108 : decode prog_3_method_11_code 108 = .ok (.aload_n 0, 1) := by decide +kernel
theorem dc_CT_readFrom_109 : decode prog_3_method_11_code 109 = .ok (.aload_n 1, 1) := by decide +kernel
theorem dc_CT_readFrom_110 : decode prog_3_method_11_code 110 = .ok (.iload_n 2, 1) := by decide +kernel
theorem dc_CT_readFrom_111 : decode prog_3_method_11_code 111 = .ok (.invokevirtual 128, 3) := by decide +kernel
theorem dc_CT_readFrom_114 : decode prog_3_method_11_code 114 = .ok (.putfield 76, 3) := by decide +kernel
theorem dc_CT_readFrom_117 : decode prog_3_method_11_code 117 = .ok (.aload_n 0, 1) := by decide +kernel
theorem dc_CT_readFrom_118 : decode prog_3_method_11_code 118 = .ok (.aload_n 1, 1) := by decide +kernel
theorem dc_CT_readFrom_119 : decode prog_3_method_11_code 119 = .ok (.iconst 0, 1) := by decide +kernel
theorem dc_CT_readFrom_120 : decode prog_3_method_11_code 120 = .ok (.ldc 132, 2) := by decide +kernel
theorem dc_CT_readFrom_122 : decode prog_3_method_11_code 122 = .ok (.invokevirtual 133, 3) := by decide +kernel
theorem dc_CT_readFrom_125 : decode prog_3_method_11_code 125 = .ok (.putfield 73, 3) := by decide +kernel
theorem dc_CT_readFrom_128 : decode prog_3_method_11_code 128 = .ok (.aload_n 1, 1) := by decide +kernel
theorem dc_CT_readFrom_129 : decode prog_3_method_11_code 129 = .ok (.invokevirtual 125, 3) := by decide +kernel
theorem dc_CT_readFrom_132 : decode prog_3_method_11_code 132 = .ok (.aload_n 1, 1) := by decide +kernel
theorem dc_CT_readFrom_133 : decode prog_3_method_11_code 133 = .ok (.invokevirtual 137, 3) := by decide +kernel
theorem dc_CT_readFrom_136 : decode prog_3_method_11_code 136 = .ok (.ireturn, 1) := by decide +kernel
theorem dc_CT_readHead_0 : decode prog_3_method_12_code 0 = .ok (.aload_n 0, 1) := by decide +kernel
theorem dc_CT_readHead_1 : decode prog_3_method_12_code 1 = .ok (.aload_n 1, 1) := by decide +kernel
theorem dc_CT_readHead_2 : decode prog_3_method_12_code 2 = .ok (.iconst 0, 1) := by decide +kernel
theorem dc_CT_readHead_3 : decode prog_3_method_12_code 3 = .ok (.ldc 132, 2) := by decide +kernel
theorem dc_CT_readHead_5 : decode prog_3_method_12_code 5 = .ok (.invokevirtual 133, 3) := by decide +kernel
theorem dc_CT_readHead_8 : decode prog_3_method_12_code 8 = .ok (.putfield 58, 3) := by decide +kernel
theorem dc_CT_readHead_11 : decode prog_3_method_12_code 11 = .ok (.aload_n 0, 1) := by decide +kernel
theorem dc_CT_readHead_12 : decode prog_3_method_12_code 12 = .ok (.getfield 12, 3) := by decide +kernel
theorem dc_CT_readHead_15 : decode prog_3_method_12_code 15 = .ok (.aload_n 1, 1) := by decide +kernel
theorem dc_CT_readHead_16 : decode prog_3_method_12_code 16 = .ok (.invokevirtual 140, 3) := by decide +kernel
theorem dc_CT_readHead_19 : decode prog_3_method_12_code 19 = .ok (.aload_n 1, 1) := by decide +kernel
theorem dc_CT_readHead_20 : decode prog_3_method_12_code 20 = .ok (.bipush 48, 2) := by decide +kernel
theorem dc_CT_readHead_22 : decode prog_3_method_12_code 22 = .ok (.invokevirtual 102, 3) := by decide +kernel
theorem dc_CT_readHead_25 : decode prog_3_method_12_code 25 = .ok (.aload_n 0, 1) := by decide +kernel
theorem dc_CT_readHead_26 : decode prog_3_method_12_code 26 = .ok (.aload_n 1, 1) := by decide +kernel
theorem dc_CT_readHead_27 : decode prog_3_method_12_code 27 = .ok (.iconst 0, 1) := by decide +kernel
theorem dc_CT_readHead_28 : decode prog_3_method_12_code 28 = .ok (.ldc 132, 2) := by decide +kernel
theorem dc_CT_readHead_30 : decode prog_3_method_12_code 30 = .ok (.invokevirtual 133, 3) := by decide +kernel
theorem dc_CT_readHead_33 : decode prog_3_method_12_code 33 = .ok (.putfield 61, 3) := by decide +kernel
theorem dc_CT_readHead_36 : decode prog_3_method_12_code 36 = .ok (.aload_n 0, 1) := by decide +kernel
theorem dc_CT_readHead_37 : decode prog_3_method_12_code 37 = .ok (.aload_n 1, 1) := by decide +kernel
theorem dc_CT_readHead_38 : decode prog_3_method_12_code 38 = .ok (.iconst 0, 1) := by decide +kernel
theorem dc_CT_readHead_39 : decode prog_3_method_12_code 39 = .ok (.ldc 132, 2) := by decide +kernel
theorem dc_CT_readHead_41 : decode prog_3_method_12_code 41 = .ok (.invokevirtual 133, 3) := by decide +kernel
theorem dc_CT_readHead_44 : decode prog_3_method_12_code 44 = .ok (.putfield 64, 3) := by decide +kernel
theorem dc_CT_readHead_47 : decode prog_3_method_12_code 47 = .ok (.aload_n 1, 1) := by decide +kernel
theorem dc_CT_readHead_48 : decode prog_3_method_12_code 48 = .ok (.invokevirtual 125, 3) := by decide +kernel
theorem dc_CT_readHead_51 : decode prog_3_method_12_code 51 = .ok (.aload_n 0, 1) := by decide +kernel
theorem dc_CT_readHead_52 : decode prog_3_method_12_code 52 = .ok (.getfield 18, 3) := by decide +kernel
theorem dc_CT_readHead_55 : decode prog_3_method_12_code 55 = .ok (.aload_n 1, 1) := by decide +kernel
theorem dc_CT_readHead_56 : decode prog_3_method_12_code 56 = .ok (.invokevirtual 140, 3) := by decide +kernel
theorem dc_CT_readHead_59 : decode prog_3_method_12_code 59 = .ok (.aload_n 1, 1) := by decide +kernel
theorem dc_CT_readHead_60 : decode prog_3_method_12_code 60 = .ok (.bipush 48, 2) := by decide +kernel
theorem dc_CT_readHead_62 : decode prog_3_method_12_code 62 = .ok (.invokevirtual 102, 3) := by decide +kernel
theorem dc_CT_readHead_65 : decode prog_3_method_12_code 65 = .ok (.aload_n 0, 1) := by decide +kernel
theorem dc_CT_readHead_66 : decode prog_3_method_12_code 66 = .ok (.aload_n 1, 1) := by decide +kernel
theorem dc_CT_readHead_67 : decode prog_3_method_12_code 67 = .ok (.iconst 2, 1) := by decide +kernel
theorem dc_CT_readHead_68 : decode prog_3_method_12_code 68 = .ok (.ldc 132, 2) := by decide +kernel
theorem dc_CT_readHead_70 : decode prog_3_method_12_code 70 = .ok (.invokevirtual 133, 3) := by decide +kernel
theorem dc_CT_readHead_73 : decode prog_3_method_12_code 73 = .ok (.putfield 67, 3) := by decide +kernel
theorem dc_CT_readHead_76 : decode prog_3_method_12_code 76 = .ok (.aload_n 0, 1) := by decide +kernel
theorem dc_CT_readHead_77 : decode prog_3_method_12_code 77 = .ok (.aload_n 1, 1) := by decide +kernel
theorem dc_CT_readHead_78 : decode prog_3_method_12_code 78 = .ok (.iconst 1, 1) := by decide +kernel
theorem dc_CT_readHead_79 : decode prog_3_method_12_code 79 = .ok (.sipush 1000, 3) := by decide +kernel
theorem dc_CT_readHead_82 : decode prog_3_method_12_code 82 = .ok (.invokevirtual 133, 3) := by decide +kernel
theorem dc_CT_readHead_85 : decode prog_3_method_12_code 85 = .ok (.putfield 70, 3) := by decide +kernel
theorem dc_CT_readHead_88 : decode prog_3_method_12_code 88 = .ok (.aload_n 1, 1) := by decide +kernel
theorem dc_CT_readHead_89 : decode prog_3_method_12_code 89 = .ok (.invokevirtual 125, 3) := by decide +kernel
theorem dc_CT_readHead_92 : decode prog_3_method_12_code 92 = .ok (.return_, 1) := by decide +kernel
theorem dc_CT_readExtension_0 : decode prog_3_method_13_code 0 = .ok (.aload_n 1, 1) := by decide +kernel
theorem dc_CT_readExtension_1 : decode prog_3_method_13_code 1 = .ok (.bipush 48, 2) := by decide +kernel
theorem dc_CT_readExtension_3 : decode prog_3_method_13_code 3 = .ok (.invokevirtual 102, 3) := by decide +kernel
theorem dc_CT_readExtension_6 : decode prog_3_method_13_code 6 = .ok (.aload_n 1, 1) := by decide +kernel
theorem dc_CT_readExtension_7 : decode prog_3_method_13_code 7 = .ok (.iconst 0, 1) := by decide +kernel
theorem dc_CT_readExtension_8 : decode prog_3_method_13_code 8 = .ok (.sipush 255, 3) := by decide +kernel
theorem dc_CT_readExtension_11 : decode prog_3_method_13_code 11 = .ok (.invokevirtual 133, 3) := by decide +kernel
theorem dc_CT_readExtension_14 : decode prog_3_method_13_code 14 = .ok (.istore_n 3, 1) := by decide +kernel
theorem dc_CT_readExtension_15 : decode prog_3_method_13_code 15 = .ok (.aload_n 0, 1) := by decide +kernel
theorem dc_CT_readExtension_16 : decode prog_3_method_13_code 16 = .ok (.iload_n 3, 1) := by decide +kernel
theorem dc_CT_readExtension_17 : decode prog_3_method_13_code 17 = .ok (.invokevirtual 143, 3) := by decide +kernel
theorem dc_CT_readExtension_20 : decode prog_3_method_13_code 20 = .ok (.ifCond .eq 7, 3) := by decide +kernel
theorem dc_CT_readExtension_23 : decode prog_3_method_13_code 23 = .ok (.aload_n 1, 1) := by decide +kernel
theorem dc_CT_readExtension_24 : decode prog_3_method_13_code 24 = .ok (.invokevirtual 146, 3) := by decide +kernel
theorem dc_CT_readExtension_27 : decode prog_3_method_13_code 27 = .ok (.aload_n 2, 1) := by decide +kernel
theorem dc_CT_readExtension_28 : decode prog_3_method_13_code 28 = .ok (.iload_n 3, 1) := by decide +kernel
theorem dc_CT_readExtension_29 : decode prog_3_method_13_code 29 = .ok (.putfield 149, 3) := by decide +kernel
theorem dc_CT_readExtension_32 : decode prog_3_method_13_code 32 = .ok (.aload_n 2, 1) := by decide +kernel
theorem dc_CT_readExtension_33 : decode prog_3_method_13_code 33 = .ok (.aload_n 1, 1) := by decide +kernel
theorem dc_CT_readExtension_34 : decode prog_3_method_13_code 34 = .ok (.invokevirtual 152, 3) := by decide +kernel
theorem dc_CT_readExtension_37 : decode prog_3_method_13_code 37 = .ok (.putfield 84, 3) := by decide +kernel
theorem dc_CT_readExtension_40 : decode prog_3_method_13_code 40 = .ok (.aload_n 1, 1) := by decide +kernel
theorem dc_CT_readExtension_41 : decode prog_3_method_13_code 41 = .ok (.iconst 4, 1) := by decide +kernel
theorem dc_CT_readExtension_42 : decode prog_3_method_13_code 42 = .ok (.invokevirtual 102, 3) := by decide +kernel
theorem dc_CT_readExtension_45 : decode prog_3_method_13_code 45 = .ok (.iload_n 3, 1) := by decide +kernel
theorem dc_CT_readExtension_46 : decode prog_3_method_13_code 46 = .ok (.tableswitch 50 1 3 #[26, 34, 42], 26) := by decide +kernel
theorem dc_CT_readExtension_72 : decode prog_3_method_13_code 72 = .ok (.aload_n 0, 1) := by decide +kernel
theorem dc_CT_readExtension_73 : decode prog_3_method_13_code 73 = .ok (.aload_n 1, 1) := by decide +kernel
theorem dc_CT_readExtension_74 : decode prog_3_method_13_code 74 = .ok (.invokevirtual 155, 3) := by decide +kernel
theorem dc_CT_readExtension_77 : decode prog_3_method_13_code 77 = .ok (.goto 24, 3) := by decide +kernel
theorem dc_CT_readExtension_80 : decode prog_3_method_13_code 80 = .ok (.aload_n 0, 1) := by decide +kernel
theorem dc_CT_readExtension_81 : decode prog_3_method_13_code 81 = .ok (.aload_n 1, 1) := by decide +kernel
theorem dc_CT_readExtension_82 : decode prog_3_method_13_code 82 = .ok (.invokevirtual 158, 3) := by decide +kernel
theorem dc_CT_readExtension_85 : decode prog_3_method_13_code 85 = .ok (.goto 16, 3) := by decide +kernel
theorem dc_CT_readExtension_88 : decode prog_3_method_13_code 88 = .ok (.aload_n 0, 1) := by decide +kernel
theorem dc_CT_readExtension_89 : decode prog_3_method_13_code 89 = .ok (.aload_n 1, 1) := by decide +kernel
theorem dc_CT_readExtension_90 : decode prog_3_method_13_code 90 = .ok (.invokevirtual 161, 3) := by decide +kernel
theorem dc_CT_readExtension_93 : decode prog_3_method_13_code 93 = .ok (.goto 8, 3) := by decide +kernel
theorem dc_CT_readExtension_96 : decode prog_3_method_13_code 96 = .ok (.aload_n 2, 1) := by decide +kernel
theorem dc_CT_readExtension_97 : decode prog_3_method_13_code 97 = .ok (.aload_n 1, 1) := by decide +kernel
theorem dc_CT_readExtension_98 : decode prog_3_method_13_code 98 = .ok (.invokevirtual 164, 3) := by decide +kernel
theorem dc_CT_readExtension_101 : decode prog_3_method_13_code 101 = .ok (.aload_n 1, 1) := by decide +kernel
theorem dc_CT_readExtension_102 : decode prog_3_method_13_code 102 = .ok (.invokevirtual 125, 3) := by decide +kernel
theorem dc_CT_readExtension_105 : decode prog_3_method_13_code 105 = .ok (.aload_n 1, 1) := by decide +kernel
theorem dc_CT_readExtension_106 : decode prog_3_method_13_code 106 = .ok (.invokevirtual 125, 3) := by decide +kernel
theorem dc_CT_readExtension_109 : decode prog_3_method_13_code 109 = .ok (.return_, 1) := by decide +kernel
theorem dc_CT_hasExtension_0 : decode prog_3_method_14_code 0 = .ok (.iconst 0, 1) := by decide +kernel
theorem dc_CT_hasExtension_1 : decode prog_3_method_14_code 1 = .ok (.istore_n 2, 1) := by decide +kernel
theorem dc_CT_hasExtension_2 : decode prog_3_method_14_code 2 = .ok (.iload_n 2, 1) := by decide +kernel
theorem dc_CT_hasExtension_3 : decode prog_3_method_14_code 3 = .ok (.aload_n 0, 1) := by decide +kernel
theorem dc_CT_hasExtension_4 : decode prog_3_method_14_code 4 = .ok (.getfield 41, 3) := by decide +kernel
theorem dc_CT_hasExtension_7 : decode prog_3_method_14_code 7 = .ok (.if_icmp .ge 24, 3) := by decide +kernel
theorem dc_CT_hasExtension_10 : decode prog_3_method_14_code 10 = .ok (.aload_n 0, 1) := by decide +kernel
theorem dc_CT_hasExtension_11 : decode prog_3_method_14_code 11 = .ok (.getfield 23, 3) := by decide +kernel
theorem dc_CT_hasExtension_14 : decode prog_3_method_14_code 14 = .ok (.iload_n 2, 1) := by decide +kernel
theorem dc_CT_hasExtension_15 : decode prog_3_method_14_code 15 = .ok (.aaload, 1) := by decide +kernel
theorem dc_CT_hasExtension_16 : decode prog_3_method_14_code 16 = .ok (.getfield 149, 3) := by decide +kernel
theorem dc_CT_hasExtension_19 : decode prog_3_method_14_code 19 = .ok (.iload_n 1, 1) := by decide +kernel
theorem dc_CT_hasExtension_20 : decode prog_3_method_14_code 20 = .ok (.if_icmp .ne 5, 3) := by decide +kernel
theorem dc_CT_hasExtension_23 : decode prog_3_method_14_code 23 = .ok (.iconst 1, 1) := by decide +kernel
theorem dc_CT_hasExtension_24 : decode prog_3_method_14_code 24 = .ok (.ireturn, 1) := by decide +kernel
theorem dc_CT_hasExtension_25 : decode prog_3_method_14_code 25 = .ok (.iinc 2 1, 3) := by decide +kernel
theorem dc_CT_hasExtension_28 : decode prog_3_method_14_code 28 = .ok (.goto (-26), 3) := by decide +kernel
theorem dc_CT_hasExtension_31 : decode prog_3_method_14_code 31 = .ok (.iconst 0, 1) := by decide +kernel
theorem dc_CT_hasExtension_32 : decode prog_3_method_14_code 32 = .ok (.ireturn, 1) := by decide +kernel
theorem dc_CT_readBasic_0 : decode prog_3_method_15_code 0 = .ok (.aload_n 1, 1) := by decide +kernel
theorem dc_CT_readBasic_1 : decode prog_3_method_15_code 1 = .ok (.bipush 48, 2) := by decide +kernel
theorem dc_CT_readBasic_3 : decode prog_3_method_15_code 3 = .ok (.invokevirtual 102, 3) := by decide +kernel
theorem dc_CT_readBasic_6 : decode prog_3_method_15_code 6 = .ok (.aload_n 0, 1) := by decide +kernel
theorem dc_CT_readBasic_7 : decode prog_3_method_15_code 7 = .ok (.aload_n 1, 1) := by decide +kernel
theorem dc_CT_readBasic_8 : decode prog_3_method_15_code 8 = .ok (.invokevirtual 152, 3) := by decide +kernel
theorem dc_CT_readBasic_11 : decode prog_3_method_15_code 11 = .ok (.putfield 45, 3) := by decide +kernel
theorem dc_CT_readBasic_14 : decode prog_3_method_15_code 14 = .ok (.aload_n 0, 1) := by decide +kernel
theorem dc_CT_readBasic_15 : decode prog_3_method_15_code 15 = .ok (.getfield 45, 3) := by decide +kernel
theorem dc_CT_readBasic_18 : decode prog_3_method_15_code 18 = .ok (.ifCond .eq 21, 3) := by decide +kernel
theorem dc_CT_readBasic_21 : decode prog_3_method_15_code 21 = .ok (.aload_n 1, 1) := by decide +kernel
theorem dc_CT_readBasic_22 : decode prog_3_method_15_code 22 = .ok (.invokevirtual 121, 3) := by decide +kernel
theorem dc_CT_readBasic_25 : decode prog_3_method_15_code 25 = .ok (.ifCond .le 14, 3) := by decide +kernel
theorem dc_CT_readBasic_28 : decode prog_3_method_15_code 28 = .ok (.aload_n 0, 1) := by decide +kernel
theorem dc_CT_readBasic_29 : decode prog_3_method_15_code 29 = .ok (.aload_n 1, 1) := by decide +kernel
theorem dc_CT_readBasic_30 : decode prog_3_method_15_code 30 = .ok (.iconst 0, 1) := by decide +kernel
theorem dc_CT_readBasic_31 : decode prog_3_method_15_code 31 = .ok (.ldc 132, 2) := by decide +kernel
theorem dc_CT_readBasic_33 : decode prog_3_method_15_code 33 = .ok (.invokevirtual 133, 3) := by decide +kernel
theorem dc_CT_readBasic_36 : decode prog_3_method_15_code 36 = .ok (.putfield 49, 3) := by decide +kernel
theorem dc_CT_readBasic_39 : decode prog_3_method_15_code 39 = .ok (.aload_n 1, 1) := by decide +kernel
theorem dc_CT_readBasic_40 : decode prog_3_method_15_code 40 = .ok (.invokevirtual 125, 3) := by decide +kernel
theorem dc_CT_readBasic_43 : decode prog_3_method_15_code 43 = .ok (.return_, 1) := by decide +kernel
theorem dc_CT_readUsage_0 : decode prog_3_method_16_code 0 = .ok (.aload_n 1, 1) := by decide +kernel
theorem dc_CT_readUsage_1 : decode prog_3_method_16_code 1 = .ok (.iconst 3, 1) := by decide +kernel
theorem dc_CT_readUsage_2 : decode prog_3_method_16_code 2 = .ok (.invokevirtual 102, 3) := by decide +kernel
theorem dc_CT_readUsage_5 : decode prog_3_method_16_code 5 = .ok (.aload_n 1, 1) := by decide +kernel
theorem dc_CT_readUsage_6 : decode prog_3_method_16_code 6 = .ok (.invokevirtual 167, 3) := by decide +kernel
theorem dc_CT_readUsage_9 : decode prog_3_method_16_code 9 = .ok (.istore_n 2, 1) := by decide +kernel
theorem dc_CT_readUsage_10 : decode prog_3_method_16_code 10 = .ok (.iconst 0, 1) := by decide +kernel
theorem dc_CT_readUsage_11 : decode prog_3_method_16_code 11 = .ok (.istore_n 3, 1) := by decide +kernel
theorem dc_CT_readUsage_12 : decode prog_3_method_16_code 12 = .ok (.aload_n 1, 1) := by decide +kernel
theorem dc_CT_readUsage_13 : decode prog_3_method_16_code 13 = .ok (.invokevirtual 121, 3) := by decide +kernel
theorem dc_CT_readUsage_16 : decode prog_3_method_16_code 16 = .ok (.ifCond .le 27, 3) := by decide +kernel
theorem dc_CT_readUsage_19 : decode prog_3_method_16_code 19 = .ok (.aload_n 1, 1) := by decide +kernel
theorem dc_CT_readUsage_20 : decode prog_3_method_16_code 20 = .ok (.invokevirtual 167, 3) := by decide +kernel
theorem dc_CT_readUsage_23 : decode prog_3_method_16_code 23 = .ok (.istore_n 3, 1) := by decide +kernel
theorem dc_CT_readUsage_24 : decode prog_3_method_16_code 24 = .ok (.iload_n 3, 1) := by decide +kernel
theorem dc_CT_readUsage_25 : decode prog_3_method_16_code 25 = .ok (.ifCond .eq 11, 3) := by decide +kernel
theorem dc_CT_readUsage_28 : decode prog_3_method_16_code 28 = .ok (.iload_n 2, 1) := by decide +kernel
theorem dc_CT_readUsage_29 : decode prog_3_method_16_code 29 = .ok (.iload_n 3, 1) := by decide +kernel
theorem dc_CT_readUsage_30 : decode prog_3_method_16_code 30 = .ok (.invokestatic 170, 3) := by decide +kernel
theorem dc_CT_readUsage_33 : decode prog_3_method_16_code 33 = .ok (.if_icmp .eq 18, 3) := by decide +kernel
theorem dc_CT_readUsage_36 : decode prog_3_method_16_code 36 = .ok (.aload_n 1, 1) := by decide +kernel
theorem dc_CT_readUsage_37 : decode prog_3_method_16_code 37 = .ok (.invokevirtual 146, 3) := by decide +kernel
theorem dc_CT_readUsage_40 : decode prog_3_method_16_code 40 = .ok (.goto 11, 3) := by decide +kernel
theorem dc_CT_readUsage_43 : decode prog_3_method_16_code 43 = .ok (.iload_n 2, 1) := by decide +kernel
theorem dc_CT_readUsage_44 : decode prog_3_method_16_code 44 = .ok (.ifCond .eq 7, 3) := by decide +kernel
theorem dc_CT_readUsage_47 : decode prog_3_method_16_code 47 = .ok (.aload_n 1, 1) := by decide +kernel
theorem dc_CT_readUsage_48 : decode prog_3_method_16_code 48 = .ok (.invokevirtual 146, 3) := by decide +kernel
theorem dc_CT_readUsage_51 : decode prog_3_method_16_code 51 = .ok (.aload_n 0, 1) := by decide +kernel
theorem dc_CT_readUsage_52 : decode prog_3_method_16_code 52 = .ok (.iload_n 3, 1) := by decide +kernel
theorem dc_CT_readUsage_53 : decode prog_3_method_16_code 53 = .ok (.invokestatic 173, 3) := by decide +kernel
theorem dc_CT_readUsage_56 : decode prog_3_method_16_code 56 = .ok (.putfield 52, 3) := by decide +kernel
theorem dc_CT_readUsage_59 : decode prog_3_method_16_code 59 = .ok (.aload_n 1, 1) := by decide +kernel
theorem dc_CT_readUsage_60 : decode prog_3_method_16_code 60 = .ok (.invokevirtual 125, 3) := by decide +kernel
theorem dc_CT_readUsage_63 : decode prog_3_method_16_code 63 = .ok (.return_, 1) := by decide +kernel
theorem dc_CT_readBounds_0 : decode prog_3_method_17_code 0 = .ok (.aload_n 1, 1) := by decide +kernel
theorem dc_CT_readBounds_1 : decode prog_3_method_17_code 1 = .ok (.bipush 48, 2) := by decide +kernel
theorem dc_CT_readBounds_3 : decode prog_3_method_17_code 3 = .ok (.invokevirtual 102, 3) := by decide +kernel
theorem dc_CT_readBounds_6 : decode prog_3_method_17_code 6 = .ok (.aload_n 0, 1) := by decide +kernel
theorem dc_CT_readBounds_7 : decode prog_3_method_17_code 7 = .ok (.getfield 31, 3) := by decide +kernel
theorem dc_CT_readBounds_10 : decode prog_3_method_17_code 10 = .ok (.aload_n 1, 1) := by decide +kernel
theorem dc_CT_readBounds_11 : decode prog_3_method_17_code 11 = .ok (.sipush 160, 3) := by decide +kernel
theorem dc_CT_readBounds_14 : decode prog_3_method_17_code 14 = .ok (.invokevirtual 176, 3) := by decide +kernel
theorem dc_CT_readBounds_17 : decode prog_3_method_17_code 17 = .ok (.aload_n 0, 1) := by decide +kernel
theorem dc_CT_readBounds_18 : decode prog_3_method_17_code 18 = .ok (.getfield 35, 3) := by decide +kernel
theorem dc_CT_readBounds_21 : decode prog_3_method_17_code 21 = .ok (.aload_n 1, 1) := by decide +kernel
theorem dc_CT_readBounds_22 : decode prog_3_method_17_code 22 = .ok (.sipush 161, 3) := by decide +kernel
theorem dc_CT_readBounds_25 : decode prog_3_method_17_code 25 = .ok (.invokevirtual 176, 3) := by decide +kernel
theorem dc_CT_readBounds_28 : decode prog_3_method_17_code 28 = .ok (.aload_n 0, 1) := by decide +kernel
theorem dc_CT_readBounds_29 : decode prog_3_method_17_code 29 = .ok (.getfield 31, 3) := by decide +kernel
theorem dc_CT_readBounds_32 : decode prog_3_method_17_code 32 = .ok (.getfield 55, 3) := by decide +kernel
theorem dc_CT_readBounds_35 : decode prog_3_method_17_code 35 = .ok (.ifCond .ne 17, 3) := by decide +kernel
theorem dc_CT_readBounds_38 : decode prog_3_method_17_code 38 = .ok (.aload_n 0, 1) := by decide +kernel
theorem dc_CT_readBounds_39 : decode prog_3_method_17_code 39 = .ok (.getfield 35, 3) := by decide +kernel
theorem dc_CT_readBounds_42 : decode prog_3_method_17_code 42 = .ok (.getfield 55, 3) := by decide +kernel
theorem dc_CT_readBounds_45 : decode prog_3_method_17_code 45 = .ok (.ifCond .ne 7, 3) := by decide +kernel
theorem dc_CT_readBounds_48 : decode prog_3_method_17_code 48 = .ok (.aload_n 1, 1) := by decide +kernel
theorem dc_CT_readBounds_49 : decode prog_3_method_17_code 49 = .ok (.invokevirtual 146, 3) := by decide +kernel
theorem dc_CT_readBounds_52 : decode prog_3_method_17_code 52 = .ok (.aload_n 1, 1) := by decide +kernel
theorem dc_CT_readBounds_53 : decode prog_3_method_17_code 53 = .ok (.invokevirtual 125, 3) := by decide +kernel
theorem dc_CT_readBounds_56 : decode prog_3_method_17_code 56 = .ok (.return_, 1) := by decide +kernel
theorem dc_CT_writeTo_0 : decode prog_3_method_18_code 0 = .ok (.aload_n 1, 1) := by decide +kernel
theorem dc_CT_writeTo_1 : decode prog_3_method_18_code 1 = .ok (.bipush 48, 2) := by decide +kernel
theorem dc_CT_writeTo_3 : decode prog_3_method_18_code 3 = .ok (.invokevirtual 180, 3) := by decide +kernel
theorem dc_CT_writeTo_6 : decode prog_3_method_18_code 6 = .ok (.istore_n 2, 1) := by decide +kernel
theorem dc_CT_writeTo_7 : decode prog_3_method_18_code 7 = .ok (.aload_n 1, 1) := by decide +kernel
theorem dc_CT_writeTo_8 : decode prog_3_method_18_code 8 = .ok (.bipush 48, 2) := by decide +kernel
theorem dc_CT_writeTo_10 : decode prog_3_method_18_code 10 = .ok (.invokevirtual 180, 3) := by decide +kernel
theorem dc_CT_writeTo_13 : decode prog_3_method_18_code 13 = .ok (.istore_n 3, 1) := by decide +kernel
theorem dc_CT_writeTo_14 : decode prog_3_method_18_code 14 = .ok (.aload_n 0, 1) := by decide +kernel
theorem dc_CT_writeTo_15 : decode prog_3_method_18_code 15 = .ok (.aload_n 1, 1) := by decide +kernel
theorem dc_CT_writeTo_16 : decode prog_3_method_18_code 16 = .ok (.invokevirtual 185, 3) := by decide +kernel
theorem dc_CT_writeTo_19 : decode prog_3_method_18_code 19 = .ok (.aload_n 0, 1) := by decide +kernel
theorem dc_CT_writeTo_20 : decode prog_3_method_18_code 20 = .ok (.getfield 41, 3) := by decide +kernel
theorem dc_CT_writeTo_23 : decode prog_3_method_18_code 23 = .ok (.ifCond .le 62, 3) := by decide +kernel
theorem dc_CT_writeTo_26 : decode prog_3_method_18_code 26 = .ok (.aload_n 1, 1) := by decide +kernel
theorem dc_CT_writeTo_27 : decode prog_3_method_18_code 27 = .ok (.sipush 163, 3) := by decide +kernel
theorem dc_CT_writeTo_30 : decode prog_3_method_18_code 30 = .ok (.invokevirtual 180, 3) := by decide +kernel
theorem dc_CT_writeTo_33 : decode prog_3_method_18_code 33 = .ok (.istore 4, 2) := by decide +kernel
theorem dc_CT_writeTo_35 : decode prog_3_method_18_code 35 = .ok (.aload_n 1, 1) := by decide +kernel
theorem dc_CT_writeTo_36 : decode prog_3_method_18_code 36 = .ok (.bipush 48, 2) := by decide +kernel
theorem dc_CT_writeTo_38 : decode prog_3_method_18_code 38 = .ok (.invokevirtual 180, 3) := by decide +kernel
theorem dc_CT_writeTo_41 : decode prog_3_method_18_code 41 = .ok (.istore 5, 2) := by decide +kernel
theorem dc_CT_writeTo_43 : decode prog_3_method_18_code 43 = .ok (.iconst 0, 1) := by decide +kernel
theorem dc_CT_writeTo_44 : decode prog_3_method_18_code 44 = .ok (.istore 6, 2) := by decide +kernel
theorem dc_CT_writeTo_46 : decode prog_3_method_18_code 46 = .ok (.iload 6, 2) := by decide +kernel
theorem dc_CT_writeTo_48 : decode prog_3_method_18_code 48 = .ok (.aload_n 0, 1) := by decide +kernel
theorem dc_CT_writeTo_49 : decode prog_3_method_18_code 49 = .ok (.getfield 41, 3) := by decide +kernel
theorem dc_CT_writeTo_52 : decode prog_3_method_18_code 52 = .ok (.if_icmp .ge 21, 3) := by decide +kernel
theorem dc_CT_writeTo_55 : decode prog_3_method_18_code 55 = .ok (.aload_n 0, 1) := by decide +kernel
theorem dc_CT_writeTo_56 : decode prog_3_method_18_code 56 = .ok (.aload_n 1, 1) := by decide +kernel
theorem dc_CT_writeTo_57 : decode prog_3_method_18_code 57 = .ok (.aload_n 0, 1) := by decide +kernel
theorem dc_CT_writeTo_58 : decode prog_3_method_18_code 58 = .ok (.getfield 23, 3) := by decide +kernel
theorem dc_CT_writeTo_61 : decode prog_3_method_18_code 61 = .ok (.iload 6, 2) := by decide +kernel
theorem dc_CT_writeTo_63 : decode prog_3_method_18_code 63 = .ok (.aaload, 1) := by decide +kernel
theorem dc_CT_writeTo_64 : decode prog_3_method_18_code 64 = .ok (.invokevirtual 189, 3) := by decide +kernel
theorem dc_CT_writeTo_67 : decode prog_3_method_18_code 67 = .ok (.iinc 6 1, 3) := by decide +kernel
theorem dc_CT_writeTo_70 : decode prog_3_method_18_code 70 = .ok (.goto (-24), 3) := by decide +kernel
theorem dc_CT_writeTo_73 : decode prog_3_method_18_code 73 = .ok (.aload_n 1, 1) := by decide +kernel
theorem dc_CT_writeTo_74 : decode prog_3_method_18_code 74 = .ok (.iload 5, 2) := by decide +kernel
theorem dc_CT_writeTo_76 : decode prog_3_method_18_code 76 = .ok (.invokevirtual 193, 3) := by decide +kernel
theorem dc_CT_writeTo_79 : decode prog_3_method_18_code 79 = .ok (.aload_n 1, 1) := by decide +kernel
theorem dc_CT_writeTo_80 : decode prog_3_method_18_code 80 = .ok (.iload 4, 2) := by decide +kernel
theorem dc_CT_writeTo_82 : decode prog_3_method_18_code 82 = .ok (.invokevirtual 193, 3) := by decide +kernel
theorem dc_CT_writeTo_85 : decode prog_3_method_18_code 85 = .ok (.aload_n 1, 1) := by decide +kernel
theorem dc_CT_writeTo_86 : decode prog_3_method_18_code 86 = .ok (.iload_n 3, 1) := by decide +kernel
theorem dc_CT_writeTo_87 : decode prog_3_method_18_code 87 = .ok (.invokevirtual 193, 3) := by decide +kernel
theorem dc_CT_writeTo_90 : decode prog_3_method_18_code 90 = .ok (.aload_n 1, 1) := by decide +kernel
theorem dc_CT_writeTo_91 : decode prog_3_method_18_code 91 = .ok (.aload_n 0, 1) := by decide +kernel
theorem dc_CT_writeTo_92 : decode prog_3_method_18_code 92 = .ok (.getfield 73, 3) := by decide +kernel
theorem dc_CT_writeTo_95 : decode prog_3_method_18_code 95 = .ok (.invokevirtual 196, 3) := by decide +kernel
theorem dc_CT_writeTo_98 : decode prog_3_method_18_code 98 = .ok (.aload_n 1, 1) := by decide +kernel
theorem dc_CT_writeTo_99 : decode prog_3_method_18_code 99 = .ok (.iload_n 2, 1) := by decide +kernel
theorem dc_CT_writeTo_100 : decode prog_3_method_18_code 100 = .ok (.invokevirtual 193, 3) := by decide +kernel
theorem dc_CT_writeTo_103 : decode prog_3_method_18_code 103 = .ok (.return_, 1) := by decide +kernel
theorem dc_CT_writeHead_0 : decode prog_3_method_19_code 0 = .ok (.aload_n 1, 1) := by decide +kernel
theorem dc_CT_writeHead_1 : decode prog_3_method_19_code 1 = .ok (.aload_n 0, 1) := by decide +kernel
theorem dc_CT_writeHead_2 : decode prog_3_method_19_code 2 = .ok (.getfield 58, 3) := by decide +kernel
theorem dc_CT_writeHead_5 : decode prog_3_method_19_code 5 = .ok (.invokevirtual 196, 3) := by decide +kernel
theorem dc_CT_writeHead_8 : decode prog_3_method_19_code 8 = .ok (.aload_n 0, 1) := by decide +kernel
theorem dc_CT_writeHead_9 : decode prog_3_method_19_code 9 = .ok (.getfield 12, 3) := by decide +kernel
theorem dc_CT_writeHead_12 : decode prog_3_method_19_code 12 = .ok (.aload_n 1, 1) := by decide +kernel
theorem dc_CT_writeHead_13 : decode prog_3_method_19_code 13 = .ok (.invokevirtual 199, 3) := by decide +kernel
theorem dc_CT_writeHead_16 : decode prog_3_method_19_code 16 = .ok (.aload_n 1, 1) := by decide +kernel
theorem dc_CT_writeHead_17 : decode prog_3_method_19_code 17 = .ok (.bipush 48, 2) := by decide +kernel
theorem dc_CT_writeHead_19 : decode prog_3_method_19_code 19 = .ok (.invokevirtual 180, 3) := by decide +kernel
theorem dc_CT_writeHead_22 : decode prog_3_method_19_code 22 = .ok (.istore_n 2, 1) := by decide +kernel
theorem dc_CT_writeHead_23 : decode prog_3_method_19_code 23 = .ok (.aload_n 1, 1) := by decide +kernel
theorem dc_CT_writeHead_24 : decode prog_3_method_19_code 24 = .ok (.aload_n 0, 1) := by decide +kernel
theorem dc_CT_writeHead_25 : decode prog_3_method_19_code 25 = .ok (.getfield 61, 3) := by decide +kernel
theorem dc_CT_writeHead_28 : decode prog_3_method_19_code 28 = .ok (.invokevirtual 196, 3) := by decide +kernel
theorem dc_CT_writeHead_31 : decode prog_3_method_19_code 31 = .ok (.aload_n 1, 1) := by decide +kernel
theorem dc_CT_writeHead_32 : decode prog_3_method_19_code 32 = .ok (.aload_n 0, 1) := by decide +kernel
theorem dc_CT_writeHead_33 : decode prog_3_method_19_code 33 = .ok (.getfield 64, 3) := by decide +kernel
theorem dc_CT_writeHead_36 : decode prog_3_method_19_code 36 = .ok (.invokevirtual 196, 3) := by decide +kernel
theorem dc_CT_writeHead_39 : decode prog_3_method_19_code 39 = .ok (.aload_n 1, 1) := by decide +kernel
theorem dc_CT_writeHead_40 : decode prog_3_method_19_code 40 = .ok (.iload_n 2, 1) := by decide +kernel
theorem dc_CT_writeHead_41 : decode prog_3_method_19_code 41 = .ok (.invokevirtual 193, 3) := by decide +kernel
theorem dc_CT_writeHead_44 : decode prog_3_method_19_code 44 = .ok (.aload_n 0, 1) := by decide +kernel
theorem dc_CT_writeHead_45 : decode prog_3_method_19_code 45 = .ok (.getfield 18, 3) := by decide +kernel
theorem dc_CT_writeHead_48 : decode prog_3_method_19_code 48 = .ok (.aload_n 1, 1) := by decide +kernel
theorem dc_CT_writeHead_49 : decode prog_3_method_19_code 49 = .ok (.invokevirtual 199, 3) := by decide +kernel
theorem dc_CT_writeHead_52 : decode prog_3_method_19_code 52 = .ok (.aload_n 1, 1) := by decide +kernel
theorem dc_CT_writeHead_53 : decode prog_3_method_19_code 53 = .ok (.bipush 48, 2) := by decide +kernel
theorem dc_CT_writeHead_55 : decode prog_3_method_19_code 55 = .ok (.invokevirtual 180, 3) := by decide +kernel
theorem dc_CT_writeHead_58 : decode prog_3_method_19_code 58 = .ok (.istore_n 3, 1) := by decide +kernel
theorem dc_CT_writeHead_59 : decode prog_3_method_19_code 59 = .ok (.aload_n 1, 1) := by decide +kernel
theorem dc_CT_writeHead_60 : decode prog_3_method_19_code 60 = .ok (.aload_n 0, 1) := by decide +kernel
theorem dc_CT_writeHead_61 : decode prog_3_method_19_code 61 = .ok (.getfield 67, 3) := by decide +kernel
theorem dc_CT_writeHead_64 : decode prog_3_method_19_code 64 = .ok (.invokevirtual 196, 3) := by decide +kernel
theorem dc_CT_writeHead_67 : decode prog_3_method_19_code 67 = .ok (.aload_n 1, 1) := by decide +kernel
theorem dc_CT_writeHead_68 : decode prog_3_method_19_code 68 = .ok (.aload_n 0, 1) := by decide +kernel
theorem dc_CT_writeHead_69 : decode prog_3_method_19_code 69 = .ok (.getfield 70, 3) := by decide +kernel
theorem dc_CT_writeHead_72 : decode prog_3_method_19_code 72 = .ok (.invokevirtual 196, 3) := by decide +kernel
theorem dc_CT_writeHead_75 : decode prog_3_method_19_code 75 = .ok (.aload_n 1, 1) := by decide +kernel
theorem dc_CT_writeHead_76 : decode prog_3_method_19_code 76 = .ok (.iload_n 3, 1) := by decide +kernel
theorem dc_CT_writeHead_77 : decode prog_3_method_19_code 77 = .ok (.invokevirtual 193, 3) := by decide +kernel
theorem dc_CT_writeHead_80 : decode prog_3_method_19_code 80 = .ok (.return_, 1) := by decide +kernel
theorem dc_CT_writeExtension_0 : decode prog_3_method_20_code 0 = .ok (.aload_n 1, 1) := by decide +kernel
theorem dc_CT_writeExtension_1 : decode prog_3_method_20_code 1 = .ok (.bipush 48, 2) := by decide +kernel
theorem dc_CT_writeExtension_3 : decode prog_3_method_20_code 3 = .ok (.invokevirtual 180, 3) := by decide +kernel
theorem dc_CT_writeExtension_6 : decode prog_3_method_20_code 6 = .ok (.istore_n 3, 1) := by decide +kernel
theorem dc_CT_writeExtension_7 : decode prog_3_method_20_code 7 = .ok (.aload_n 1, 1) := by decide +kernel
theorem dc_CT_writeExtension_8 : decode prog_3_method_20_code 8 = .ok (.aload_n 2, 1) := by decide +kernel
theorem dc_CT_writeExtension_9 : decode prog_3_method_20_code 9 = .ok (.getfield 149, 3) := by decide +kernel
theorem dc_CT_writeExtension_12 : decode prog_3_method_20_code 12 = .ok (.invokevirtual 196, 3) := by decide +kernel
theorem dc_CT_writeExtension_15 : decode prog_3_method_20_code 15 = .ok (.aload_n 2, 1) := by decide +kernel
theorem dc_CT_writeExtension_16 : decode prog_3_method_20_code 16 = .ok (.getfield 84, 3) := by decide +kernel
theorem dc_CT_writeExtension_19 : decode prog_3_method_20_code 19 = .ok (.ifCond .eq 7, 3) := by decide +kernel
theorem dc_CT_writeExtension_22 : decode prog_3_method_20_code 22 = .ok (.aload_n 1, 1) := by decide +kernel
theorem dc_CT_writeExtension_23 : decode prog_3_method_20_code 23 = .ok (.invokevirtual 202, 3) := by decide +kernel
theorem dc_CT_writeExtension_26 : decode prog_3_method_20_code 26 = .ok (.aload_n 1, 1) := by decide +kernel
theorem dc_CT_writeExtension_27 : decode prog_3_method_20_code 27 = .ok (.iconst 4, 1) := by decide +kernel
theorem dc_CT_writeExtension_28 : decode prog_3_method_20_code 28 = .ok (.invokevirtual 180, 3) := by decide +kernel
theorem dc_CT_writeExtension_31 : decode prog_3_method_20_code 31 = .ok (.istore 4, 2) := by decide +kernel
theorem dc_CT_writeExtension_33 : decode prog_3_method_20_code 33 = .ok (.aload_n 2, 1) := by decide +kernel
theorem dc_CT_writeExtension_34 : decode prog_3_method_20_code 34 = .ok (.getfield 149, 3) := by decide +kernel
theorem dc_CT_writeExtension_37 : decode prog_3_method_20_code 37 = .ok (.tableswitch 51 1 3 #[27, 35, 43], 27) := by decide +kernel
theorem dc_CT_writeExtension_64 : decode prog_3_method_20_code 64 = .ok (.aload_n 0, 1) := by decide +kernel
theorem dc_CT_writeExtension_65 : decode prog_3_method_20_code 65 = .ok (.aload_n 1, 1) := by decide +kernel
theorem dc_CT_writeExtension_66 : decode prog_3_method_20_code 66 = .ok (.invokevirtual 205, 3) := by decide +kernel
theorem dc_CT_writeExtension_69 : decode prog_3_method_20_code 69 = .ok (.goto 24, 3) := by decide +kernel
theorem dc_CT_writeExtension_72 : decode prog_3_method_20_code 72 = .ok (.aload_n 0, 1) := by decide +kernel
theorem dc_CT_writeExtension_73 : decode prog_3_method_20_code 73 = .ok (.aload_n 1, 1) := by decide +kernel
theorem dc_CT_writeExtension_74 : decode prog_3_method_20_code 74 = .ok (.invokevirtual 208, 3) := by decide +kernel
theorem dc_CT_writeExtension_77 : decode prog_3_method_20_code 77 = .ok (.goto 16, 3) := by decide +kernel
theorem dc_CT_writeExtension_80 : decode prog_3_method_20_code 80 = .ok (.aload_n 0, 1) := by decide +kernel
theorem dc_CT_writeExtension_81 : decode prog_3_method_20_code 81 = .ok (.aload_n 1, 1) := by decide +kernel
theorem dc_CT_writeExtension_82 : decode prog_3_method_20_code 82 = .ok (.invokevirtual 211, 3) := by decide +kernel
theorem dc_CT_writeExtension_85 : decode prog_3_method_20_code 85 = .ok (.goto 8, 3) := by decide +kernel
theorem dc_CT_writeExtension_88 : decode prog_3_method_20_code 88 = .ok (.aload_n 2, 1) := by decide +kernel
theorem dc_CT_writeExtension_89 : decode prog_3_method_20_code 89 = .ok (.aload_n 1, 1) := by decide +kernel
theorem dc_CT_writeExtension_90 : decode prog_3_method_20_code 90 = .ok (.invokevirtual 214, 3) := by decide +kernel
theorem dc_CT_writeExtension_93 : decode prog_3_method_20_code 93 = .ok (.aload_n 1, 1) := by decide +kernel
theorem dc_CT_writeExtension_94 : decode prog_3_method_20_code 94 = .ok (.iload 4, 2) := by decide +kernel
theorem dc_CT_writeExtension_96 : decode prog_3_method_20_code 96 = .ok (.invokevirtual 193, 3) := by decide +kernel
theorem dc_CT_writeExtension_99 : decode prog_3_method_20_code 99 = .ok (.aload_n 1, 1) := by decide +kernel
theorem dc_CT_writeExtension_100 : decode prog_3_method_20_code 100 = .ok (.iload_n 3, 1) := by decide +kernel
theorem dc_CT_writeExtension_101 : decode prog_3_method_20_code 101 = .ok (.invokevirtual 193, 3) := by decide +kernel
theorem dc_CT_writeExtension_104 : decode prog_3_method_20_code 104 = .ok (.return_, 1) := by decide +kernel
theorem dc_CT_writeBasic_0 : decode prog_3_method_21_code 0 = .ok (.aload_n 1, 1) := by decide +kernel
theorem dc_CT_writeBasic_1 : decode prog_3_method_21_code 1 = .ok (.bipush 48, 2) := by decide +kernel
theorem dc_CT_writeBasic_3 : decode prog_3_method_21_code 3 = .ok (.invokevirtual 180, 3) := by decide +kernel
theorem dc_CT_writeBasic_6 : decode prog_3_method_21_code 6 = .ok (.istore_n 2, 1) := by decide +kernel
theorem dc_CT_writeBasic_7 : decode prog_3_method_21_code 7 = .ok (.aload_n 0, 1) := by decide +kernel
theorem dc_CT_writeBasic_8 : decode prog_3_method_21_code 8 = .ok (.getfield 45, 3) := by decide +kernel
theorem dc_CT_writeBasic_11 : decode prog_3_method_21_code 11 = .ok (.ifCond .eq 7, 3) := by decide +kernel
theorem dc_CT_writeBasic_14 : decode prog_3_method_21_code 14 = .ok (.aload_n 1, 1) := by decide +kernel
theorem dc_CT_writeBasic_15 : decode prog_3_method_21_code 15 = .ok (.invokevirtual 202, 3) := by decide +kernel
theorem dc_CT_writeBasic_18 : decode prog_3_method_21_code 18 = .ok (.aload_n 0, 1) := by decide +kernel
theorem dc_CT_writeBasic_19 : decode prog_3_method_21_code 19 = .ok (.getfield 49, 3) := by decide +kernel
theorem dc_CT_writeBasic_22 : decode prog_3_method_21_code 22 = .ok (.iconst (-1), 1) := by decide +kernel
theorem dc_CT_writeBasic_23 : decode prog_3_method_21_code 23 = .ok (.if_icmp .eq 11, 3) := by decide +kernel
theorem dc_CT_writeBasic_26 : decode prog_3_method_21_code 26 = .ok (.aload_n 1, 1) := by decide +kernel
theorem dc_CT_writeBasic_27 : decode prog_3_method_21_code 27 = .ok (.aload_n 0, 1) := by decide +kernel
theorem dc_CT_writeBasic_28 : decode prog_3_method_21_code 28 = .ok (.getfield 49, 3) := by decide +kernel
theorem dc_CT_writeBasic_31 : decode prog_3_method_21_code 31 = .ok (.invokevirtual 196, 3) := by decide +kernel
theorem dc_CT_writeBasic_34 : decode prog_3_method_21_code 34 = .ok (.aload_n 1, 1) := by decide +kernel
theorem dc_CT_writeBasic_35 : decode prog_3_method_21_code 35 = .ok (.iload_n 2, 1) := by decide +kernel
theorem dc_CT_writeBasic_36 : decode prog_3_method_21_code 36 = .ok (.invokevirtual 193, 3) := by decide +kernel
theorem dc_CT_writeBasic_39 : decode prog_3_method_21_code 39 = .ok (.return_, 1) := by decide +kernel
theorem dc_CT_writeUsage_0 : decode prog_3_method_22_code 0 = .ok (.aload_n 1, 1) := by decide +kernel
theorem dc_CT_writeUsage_1 : decode prog_3_method_22_code 1 = .ok (.iconst 3, 1) := by decide +kernel
theorem dc_CT_writeUsage_2 : decode prog_3_method_22_code 2 = .ok (.invokevirtual 180, 3) := by decide +kernel
theorem dc_CT_writeUsage_5 : decode prog_3_method_22_code 5 = .ok (.istore_n 2, 1) := by decide +kernel
theorem dc_CT_writeUsage_6 : decode prog_3_method_22_code 6 = .ok (.aload_n 0, 1) := by decide +kernel
theorem dc_CT_writeUsage_7 : decode prog_3_method_22_code 7 = .ok (.getfield 52, 3) := by decide +kernel
theorem dc_CT_writeUsage_10 : decode prog_3_method_22_code 10 = .ok (.invokestatic 173, 3) := by decide +kernel
theorem dc_CT_writeUsage_13 : decode prog_3_method_22_code 13 = .ok (.istore_n 3, 1) := by decide +kernel
theorem dc_CT_writeUsage_14 : decode prog_3_method_22_code 14 = .ok (.iload_n 3, 1) := by decide +kernel
theorem dc_CT_writeUsage_15 : decode prog_3_method_22_code 15 = .ok (.ifCond .ne 12, 3) := by decide +kernel
theorem dc_CT_writeUsage_18 : decode prog_3_method_22_code 18 = .ok (.aload_n 1, 1) := by decide +kernel
theorem dc_CT_writeUsage_19 : decode prog_3_method_22_code 19 = .ok (.iconst 0, 1) := by decide +kernel
theorem dc_CT_writeUsage_20 : decode prog_3_method_22_code 20 = .ok (.invokevirtual 180, 3) := by decide +kernel
theorem dc_CT_writeUsage_23 : decode prog_3_method_22_code 23 = .ok (.pop, 1) := by decide +kernel
theorem dc_CT_writeUsage_24 : decode prog_3_method_22_code 24 = .ok (.goto 18, 3) := by decide +kernel
theorem dc_CT_writeUsage_27 : decode prog_3_method_22_code 27 = .ok (.aload_n 1, 1) := by decide +kernel
theorem dc_CT_writeUsage_28 : decode prog_3_method_22_code 28 = .ok (.iload_n 3, 1) := by decide +kernel
theorem dc_CT_writeUsage_29 : decode prog_3_method_22_code 29 = .ok (.invokestatic 170, 3) := by decide +kernel
theorem dc_CT_writeUsage_32 : decode prog_3_method_22_code 32 = .ok (.invokevirtual 180, 3) := by decide +kernel
theorem dc_CT_writeUsage_35 : decode prog_3_method_22_code 35 = .ok (.pop, 1) := by decide +kernel
theorem dc_CT_writeUsage_36 : decode prog_3_method_22_code 36 = .ok (.aload_n 1, 1) := by decide +kernel
theorem dc_CT_writeUsage_37 : decode prog_3_method_22_code 37 = .ok (.iload_n 3, 1) := by decide +kernel
theorem dc_CT_writeUsage_38 : decode prog_3_method_22_code 38 = .ok (.invokevirtual 180, 3) := by decide +kernel
theorem dc_CT_writeUsage_41 : decode prog_3_method_22_code 41 = .ok (.pop, 1) := by decide +kernel
theorem dc_CT_writeUsage_42 : decode prog_3_method_22_code 42 = .ok (.aload_n 1, 1) := by decide +kernel
theorem dc_CT_writeUsage_43 : decode prog_3_method_22_code 43 = .ok (.iload_n 2, 1) := by decide +kernel
theorem dc_CT_writeUsage_44 : decode prog_3_method_22_code 44 = .ok (.invokevirtual 193, 3) := by decide +kernel
theorem dc_CT_writeUsage_47 : decode prog_3_method_22_code 47 = .ok (.return_, 1) := by decide +kernel
theorem dc_CT_writeBounds_0 : decode prog_3_method_23_code 0 = .ok (.aload_n 1, 1) := by decide +kernel
theorem dc_CT_writeBounds_1 : decode prog_3_method_23_code 1 = .ok (.bipush 48, 2) := by decide +kernel
theorem dc_CT_writeBounds_3 : decode prog_3_method_23_code 3 = .ok (.invokevirtual 180, 3) := by decide +kernel
theorem dc_CT_writeBounds_6 : decode prog_3_method_23_code 6 = .ok (.istore_n 2, 1) := by decide +kernel
theorem dc_CT_writeBounds_7 : decode prog_3_method_23_code 7 = .ok (.aload_n 0, 1) := by decide +kernel
theorem dc_CT_writeBounds_8 : decode prog_3_method_23_code 8 = .ok (.getfield 31, 3) := by decide +kernel
theorem dc_CT_writeBounds_11 : decode prog_3_method_23_code 11 = .ok (.aload_n 1, 1) := by decide +kernel
theorem dc_CT_writeBounds_12 : decode prog_3_method_23_code 12 = .ok (.sipush 160, 3) := by decide +kernel
theorem dc_CT_writeBounds_15 : decode prog_3_method_23_code 15 = .ok (.invokevirtual 217, 3) := by decide +kernel
theorem dc_CT_writeBounds_18 : decode prog_3_method_23_code 18 = .ok (.aload_n 0, 1) := by decide +kernel
theorem dc_CT_writeBounds_19 : decode prog_3_method_23_code 19 = .ok (.getfield 35, 3) := by decide +kernel
theorem dc_CT_writeBounds_22 : decode prog_3_method_23_code 22 = .ok (.aload_n 1, 1) := by decide +kernel
theorem dc_CT_writeBounds_23 : decode prog_3_method_23_code 23 = .ok (.sipush 161, 3) := by decide +kernel
theorem dc_CT_writeBounds_26 : decode prog_3_method_23_code 26 = .ok (.invokevirtual 217, 3) := by decide +kernel
theorem dc_CT_writeBounds_29 : decode prog_3_method_23_code 29 = .ok (.aload_n 1, 1) := by decide +kernel
theorem dc_CT_writeBounds_30 : decode prog_3_method_23_code 30 = .ok (.iload_n 2, 1) := by decide +kernel
theorem dc_CT_writeBounds_31 : decode prog_3_method_23_code 31 = .ok (.invokevirtual 193, 3) := by decide +kernel
theorem dc_CT_writeBounds_34 : decode prog_3_method_23_code 34 = .ok (.return_, 1) := by decide +kernel
theorem dc_CT_mirrored_0 : decode prog_3_method_24_code 0 = .ok (.iconst 0, 1) := by decide +kernel
theorem dc_CT_mirrored_1 : decode prog_3_method_24_code 1 = .ok (.istore_n 1, 1) := by decide +kernel
theorem dc_CT_mirrored_2 : decode prog_3_method_24_code 2 = .ok (.iconst 0, 1) := by decide +kernel
theorem dc_CT_mirrored_3 : decode prog_3_method_24_code 3 = .ok (.istore_n 2, 1) := by decide +kernel
theorem dc_CT_mirrored_4 : decode prog_3_method_24_code 4 = .ok (.iload_n 2, 1) := by decide +kernel
theorem dc_CT_mirrored_5 : decode prog_3_method_24_code 5 = .ok (.bipush 8, 2) := by decide +kernel
theorem dc_CT_mirrored_7 : decode prog_3_method_24_code 7 = .ok (.if_icmp .ge 19, 3) := by decide +kernel
theorem dc_CT_mirrored_10 : decode prog_3_method_24_code 10 = .ok (.iload_n 1, 1) := by decide +kernel
theorem dc_CT_mirrored_11 : decode prog_3_method_24_code 11 = .ok (.iconst 1, 1) := by decide +kernel
theorem dc_CT_mirrored_12 : decode prog_3_method_24_code 12 = .ok (.ishl, 1) := by decide +kernel
theorem dc_CT_mirrored_13 : decode prog_3_method_24_code 13 = .ok (.iload_n 0, 1) := by decide +kernel
theorem dc_CT_mirrored_14 : decode prog_3_method_24_code 14 = .ok (.iload_n 2, 1) := by decide +kernel
theorem dc_CT_mirrored_15 : decode prog_3_method_24_code 15 = .ok (.iushr, 1) := by decide +kernel
theorem dc_CT_mirrored_16 : decode prog_3_method_24_code 16 = .ok (.iconst 1, 1) := by decide +kernel
theorem dc_CT_mirrored_17 : decode prog_3_method_24_code 17 = .ok (.iand, 1) := by decide +kernel
theorem dc_CT_mirrored_18 : decode prog_3_method_24_code 18 = .ok (.ior, 1) := by decide +kernel
theorem dc_CT_mirrored_19 : decode prog_3_method_24_code 19 = .ok (.istore_n 1, 1) := by decide +kernel
theorem dc_CT_mirrored_20 : decode prog_3_method_24_code 20 = .ok (.iinc 2 1, 3) := by decide +kernel
theorem dc_CT_mirrored_23 : decode prog_3_method_24_code 23 = .ok (.goto (-19), 3) := by decide +kernel
theorem dc_CT_mirrored_26 : decode prog_3_method_24_code 26 = .ok (.iload_n 1, 1) := by decide +kernel
theorem dc_CT_mirrored_27 : decode prog_3_method_24_code 27 = .ok (.ireturn, 1) := by decide +kernel
theorem dc_CT_zerosBehind_0 : decode prog_3_method_25_code 0 = .ok (.iconst 0, 1) := by decide +kernel
theorem dc_CT_zerosBehind_1 : decode prog_3_method_25_code 1 = .ok (.istore_n 1, 1) := by decide +kernel
theorem dc_CT_zerosBehind_2 : decode prog_3_method_25_code 2 = .ok (.iload_n 1, 1) := by decide +kernel
theorem dc_CT_zerosBehind_3 : decode prog_3_method_25_code 3 = .ok (.bipush 8, 2) := by decide +kernel
theorem dc_CT_zerosBehind_5 : decode prog_3_method_25_code 5 = .ok (.if_icmp .ge 17, 3) := by decide +kernel
theorem dc_CT_zerosBehind_8 : decode prog_3_method_25_code 8 = .ok (.iload_n 0, 1) := by decide +kernel
theorem dc_CT_zerosBehind_9 : decode prog_3_method_25_code 9 = .ok (.iload_n 1, 1) := by decide +kernel
theorem dc_CT_zerosBehind_10 : decode prog_3_method_25_code 10 = .ok (.iushr, 1) := by decide +kernel
theorem dc_CT_zerosBehind_11 : decode prog_3_method_25_code 11 = .ok (.iconst 1, 1) := by decide +kernel
theorem dc_CT_zerosBehind_12 : decode prog_3_method_25_code 12 = .ok (.iand, 1) := by decide +kernel
theorem dc_CT_zerosBehind_13 : decode prog_3_method_25_code 13 = .ok (.ifCond .ne 9, 3) := by decide +kernel
theorem dc_CT_zerosBehind_16 : decode prog_3_method_25_code 16 = .ok (.iinc 1 1, 3) := by decide +kernel
theorem dc_CT_zerosBehind_19 : decode prog_3_method_25_code 19 = .ok (.goto (-17), 3) := by decide +kernel
theorem dc_CT_zerosBehind_22 : decode prog_3_method_25_code 22 = .ok (.iload_n 1, 1) := by decide +kernel
theorem dc_CT_zerosBehind_23 : decode prog_3_method_25_code 23 = .ok (.ireturn, 1) := by decide +kernel
end
section
/-! what each instruction is -/
theorem dc_CP_init_0 : decode prog_1_method_1_code 0 = .ok (.aload_n 0, 1) := by decide +kernel
theorem dc_CP_init_1 : decode prog_1_method_1_code 1 = .ok (.invokespecial 1, 3) := by decide +kernel
theorem dc_CP_init_4 : decode prog_1_method_1_code 4 = .ok (.aload_n 0, 1) := by decide +kernel
theorem dc_CP_init_5 : decode prog_1_method_1_code 5 = .ok (.new 7, 3) := by decide +kernel
theorem dc_CP_init_8 : decode prog_1_method_1_code 8 = .ok (.dup, 1) := by decide +kernel
theorem dc_CP_init_9 : decode prog_1_method_1_code 9 = .ok (.invokespecial 9, 3) := by decide +kernel
theorem dc_CP_init_12 : decode prog_1_method_1_code 12 = .ok (.putfield 10, 3) := by decide +kernel
theorem dc_CP_init_15 : decode prog_1_method_1_code 15 = .ok (.aload_n 0, 1) := by decide +kernel
theorem dc_CP_init_16 : decode prog_1_method_1_code 16 = .ok (.aload_n 0, 1) := by decide +kernel
theorem dc_CP_init_17 : decode prog_1_method_1_code 17 = .ok (.getfield 10, 3) := by decide +kernel
theorem dc_CP_init_20 : decode prog_1_method_1_code 20 = .ok (.getfield 16, 3) := by decide +kernel
theorem dc_CP_init_23 : decode prog_1_method_1_code 23 = .ok (.putfield 20, 3) := by decide +kernel
theorem dc_CP_init_26 : decode prog_1_method_1_code 26 = .ok (.aload_n 0, 1) := by decide +kernel
theorem dc_CP_init_27 : decode prog_1_method_1_code 27 = .ok (.bipush 9, 2) := by decide +kernel
theorem dc_CP_init_29 : decode prog_1_method_1_code 29 = .ok (.anewarray 23, 3) := by decide +kernel
theorem dc_CP_init_32 : decode prog_1_method_1_code 32 = .ok (.putfield 25, 3) := by decide +kernel
theorem dc_CP_init_35 : decode prog_1_method_1_code 35 = .ok (.iconst 0, 1) := by decide +kernel
theorem dc_CP_init_36 : decode prog_1_method_1_code 36 = .ok (.istore_n 1, 1) := by decide +kernel
theorem dc_CP_init_37 : decode prog_1_method_1_code 37 = .ok (.iload_n 1, 1) := by decide +kernel
theorem dc_CP_init_38 : decode prog_1_method_1_code 38 = .ok (.aload_n 0, 1) := by decide +kernel
theorem dc_CP_init_39 : decode prog_1_method_1_code 39 = .ok (.getfield 25, 3) := by decide +kernel
theorem dc_CP_init_42 : decode prog_1_method_1_code 42 = .ok (.arraylength, 1) := by decide +kernel
theorem dc_CP_init_43 : decode prog_1_method_1_code 43 = .ok (.if_icmp .ge 22, 3) := by decide +kernel
theorem dc_CP_init_46 : decode prog_1_method_1_code 46 = .ok (.aload_n 0, 1) := by decide +kernel
theorem dc_CP_init_47 : decode prog_1_method_1_code 47 = .ok (.getfield 25, 3) := by decide +kernel
theorem dc_CP_init_50 : decode prog_1_method_1_code 50 = .ok (.iload_n 1, 1) := by decide +kernel
theorem dc_CP_init_51 : decode prog_1_method_1_code 51 = .ok (.new 23, 3) := by decide +kernel
theorem dc_CP_init_54 : decode prog_1_method_1_code 54 = .ok (.dup, 1) := by decide +kernel
theorem dc_CP_init_55 : decode prog_1_method_1_code 55 = .ok (.invokespecial 29, 3) := by decide +kernel
theorem dc_CP_init_58 : decode prog_1_method_1_code 58 = .ok (.aastore, 1) := by decide +kernel
theorem dc_CP_init_59 : decode prog_1_method_1_code 59 = .ok (.iinc 1 1, 3) := by decide +kernel
theorem dc_CP_init_62 : decode prog_1_method_1_code 62 = .ok (.goto (-25), 3) := by decide +kernel
theorem dc_CP_init_65 : decode prog_1_method_1_code 65 = .ok (.aload_n 0, 1) := by decide +kernel
theorem dc_CP_init_66 : decode prog_1_method_1_code 66 = .ok (.iconst 0, 1) := by decide +kernel
theorem dc_CP_init_67 : decode prog_1_method_1_code 67 = .ok (.putfield 30, 3) := by decide +kernel
theorem dc_CP_init_70 : decode prog_1_method_1_code 70 = .ok (.aload_n 0, 1) := by decide +kernel
theorem dc_CP_init_71 : decode prog_1_method_1_code 71 = .ok (.bipush 6, 2) := by decide +kernel
theorem dc_CP_init_73 : decode prog_1_method_1_code 73 = .ok (.newarray .int, 2) := by decide +kernel
theorem dc_CP_init_75 : decode prog_1_method_1_code 75 = .ok (.putfield 34, 3) := by decide +kernel
theorem dc_CP_init_78 : decode prog_1_method_1_code 78 = .ok (.aload_n 0, 1) := by decide +kernel
theorem dc_CP_init_79 : decode prog_1_method_1_code 79 = .ok (.iconst 0, 1) := by decide +kernel
theorem dc_CP_init_80 : decode prog_1_method_1_code 80 = .ok (.putfield 38, 3) := by decide +kernel
theorem dc_CP_init_83 : decode prog_1_method_1_code 83 = .ok (.return_, 1) := by decide +kernel
theorem dc_CP_feed_0 : decode prog_1_method_2_code 0 = .ok (.iload_n 2, 1) := by decide +kernel
theorem dc_CP_feed_1 : decode prog_1_method_2_code 1 = .ok (.iconst 1, 1) := by decide +kernel
theorem dc_CP_feed_2 : decode prog_1_method_2_code 2 = .ok (.if_icmp .lt 23, 3) := by decide +kernel
theorem dc_CP_feed_5 : decode prog_1_method_2_code 5 = .ok (.iload_n 2, 1) := by decide +kernel
theorem dc_CP_feed_6 : decode prog_1_method_2_code 6 = .ok (.iconst 4, 1) := by decide +kernel
theorem dc_CP_feed_7 : decode prog_1_method_2_code 7 = .ok (.if_icmp .gt 18, 3) := by decide +kernel
theorem dc_CP_feed_10 : decode prog_1_method_2_code 10 = .ok (.iload_n 2, 1) := by decide +kernel
theorem dc_CP_feed_11 : decode prog_1_method_2_code 11 = .ok (.sipush 160, 3) := by decide +kernel
theorem dc_CP_feed_14 : decode prog_1_method_2_code 14 = .ok (.aload_n 0, 1) := by decide +kernel
theorem dc_CP_feed_15 : decode prog_1_method_2_code 15 = .ok (.getfield 20, 3) := by decide +kernel
theorem dc_CP_feed_18 : decode prog_1_method_2_code 18 = .ok (.getfield 41, 3) := by decide +kernel
theorem dc_CP_feed_21 : decode prog_1_method_2_code 21 = .ok (.isub, 1) := by decide +kernel
theorem dc_CP_feed_22 : decode prog_1_method_2_code 22 = .ok (.if_icmp .le 5, 3) := by decide +kernel
theorem dc_CP_feed_25 : decode prog_1_method_2_code 25 = .ok (.iconst 0, 1) := by decide +kernel
theorem dc_CP_feed_26 : decode prog_1_method_2_code 26 = .ok (.ireturn, 1) := by decide +kernel
theorem dc_CP_feed_27 : decode prog_1_method_2_code 27 = .ok (.iload_n 2, 1) := by decide +kernel
theorem dc_CP_feed_28 : decode prog_1_method_2_code 28 = .ok (.iconst 1, 1) := by decide +kernel
theorem dc_CP_feed_29 : decode prog_1_method_2_code 29 = .ok (.isub, 1) := by decide +kernel
theorem dc_CP_feed_30 : decode prog_1_method_2_code 30 = .ok (.istore_n 3, 1) := by decide +kernel
theorem dc_CP_feed_31 : decode prog_1_method_2_code 31 = .ok (.iload_n 3, 1) := by decide +kernel
theorem dc_CP_feed_32 : decode prog_1_method_2_code 32 = .ok (.ifCond .lt 27, 3) := by decide +kernel
theorem dc_CP_feed_35 : decode prog_1_method_2_code 35 = .ok (.aload_n 0, 1) := by decide +kernel
theorem dc_CP_feed_36 : decode prog_1_method_2_code 36 = .ok (.getfield 20, 3) := by decide +kernel
theorem dc_CP_feed_39 : decode prog_1_method_2_code 39 = .ok (.iload_n 1, 1) := by decide +kernel
theorem dc_CP_feed_40 : decode prog_1_method_2_code 40 = .ok (.bipush 8, 2) := by decide +kernel
theorem dc_CP_feed_42 : decode prog_1_method_2_code 42 = .ok (.iload_n 3, 1) := by decide +kernel
theorem dc_CP_feed_43 : decode prog_1_method_2_code 43 = .ok (.imul, 1) := by decide +kernel
theorem dc_CP_feed_44 : decode prog_1_method_2_code 44 = .ok (.iushr, 1) := by decide +kernel
theorem dc_CP_feed_45 : decode prog_1_method_2_code 45 = .ok (.sipush 255, 3) := by decide +kernel
theorem dc_CP_feed_48 : decode prog_1_method_2_code 48 = .ok (.iand, 1) := by decide +kernel
theorem dc_CP_feed_49 : decode prog_1_method_2_code 49 = .ok (.invokevirtual 46, 3) := by decide +kernel
theorem dc_CP_feed_52 : decode prog_1_method_2_code 52 = .ok (.pop, 1) := by decide +kernel
theorem dc_CP_feed_53 : decode prog_1_method_2_code 53 = .ok (.iinc 3 (-1), 3) := by decide +kernel
theorem dc_CP_feed_56 : decode prog_1_method_2_code 56 = .ok (.goto (-25), 3) := by decide +kernel
theorem dc_CP_feed_59 : decode prog_1_method_2_code 59 = .ok (.iconst 1, 1) := by decide +kernel
theorem dc_CP_feed_60 : decode prog_1_method_2_code 60 = .ok (.ireturn, 1) := by decide +kernel
theorem dc_CP_set_0 : decode prog_1_method_3_code 0 = .ok (.aload_n 0, 1) := by decide +kernel
theorem dc_CP_set_1 : decode prog_1_method_3_code 1 = .ok (.getfield 20, 3) := by decide +kernel
theorem dc_CP_set_4 : decode prog_1_method_3_code 4 = .ok (.iload_n 1, 1) := by decide +kernel
theorem dc_CP_set_5 : decode prog_1_method_3_code 5 = .ok (.invokevirtual 50, 3) := by decide +kernel
theorem dc_CP_set_8 : decode prog_1_method_3_code 8 = .ok (.ifCond .eq 14, 3) := by decide +kernel
theorem dc_CP_set_11 : decode prog_1_method_3_code 11 = .ok (.iload_n 2, 1) := by decide +kernel
theorem dc_CP_set_12 : decode prog_1_method_3_code 12 = .ok (.ifCond .lt 10, 3) := by decide +kernel
theorem dc_CP_set_15 : decode prog_1_method_3_code 15 = .ok (.iload_n 2, 1) := by decide +kernel
theorem dc_CP_set_16 : decode prog_1_method_3_code 16 = .ok (.sipush 255, 3) := by decide +kernel
theorem dc_CP_set_19 : decode prog_1_method_3_code 19 = .ok (.if_icmp .le 5, 3) := by decide +kernel
theorem dc_CP_set_22 : decode prog_1_method_3_code 22 = .ok (.iconst 0, 1) := by decide +kernel
theorem dc_CP_set_23 : decode prog_1_method_3_code 23 = .ok (.ireturn, 1) := by decide +kernel
theorem dc_CP_set_24 : decode prog_1_method_3_code 24 = .ok (.aload_n 0, 1) := by decide +kernel
theorem dc_CP_set_25 : decode prog_1_method_3_code 25 = .ok (.getfield 20, 3) := by decide +kernel
theorem dc_CP_set_28 : decode prog_1_method_3_code 28 = .ok (.getfield 54, 3) := by decide +kernel
theorem dc_CP_set_31 : decode prog_1_method_3_code 31 = .ok (.iload_n 1, 1) := by decide +kernel
theorem dc_CP_set_32 : decode prog_1_method_3_code 32 = .ok (.iload_n 2, 1) := by decide +kernel
theorem dc_CP_set_33 : decode prog_1_method_3_code 33 = .ok (.iastore, 1) := by decide +kernel
theorem dc_CP_set_34 : decode prog_1_method_3_code 34 = .ok (.iconst 1, 1) := by decide +kernel
theorem dc_CP_set_35 : decode prog_1_method_3_code 35 = .ok (.ireturn, 1) := by decide +kernel
theorem dc_CP_trim_0 : decode prog_1_method_4_code 0 = .ok (.iload_n 1, 1) := by decide +kernel
theorem dc_CP_trim_1 : decode prog_1_method_4_code 1 = .ok (.ifCond .lt 14, 3) := by decide +kernel
theorem dc_CP_trim_4 : decode prog_1_method_4_code 4 = .ok (.iload_n 1, 1) := by decide +kernel
theorem dc_CP_trim_5 : decode prog_1_method_4_code 5 = .ok (.aload_n 0, 1) := by decide +kernel
theorem dc_CP_trim_6 : decode prog_1_method_4_code 6 = .ok (.getfield 20, 3) := by decide +kernel
theorem dc_CP_trim_9 : decode prog_1_method_4_code 9 = .ok (.getfield 41, 3) := by decide +kernel
theorem dc_CP_trim_12 : decode prog_1_method_4_code 12 = .ok (.if_icmp .le 5, 3) := by decide +kernel
theorem dc_CP_trim_15 : decode prog_1_method_4_code 15 = .ok (.iconst 0, 1) := by decide +kernel
theorem dc_CP_trim_16 : decode prog_1_method_4_code 16 = .ok (.ireturn, 1) := by decide +kernel
theorem dc_CP_trim_17 : decode prog_1_method_4_code 17 = .ok (.aload_n 0, 1) := by decide +kernel
theorem dc_CP_trim_18 : decode prog_1_method_4_code 18 = .ok (.getfield 20, 3) := by decide +kernel
theorem dc_CP_trim_21 : decode prog_1_method_4_code 21 = .ok (.iload_n 1, 1) := by decide +kernel
theorem dc_CP_trim_22 : decode prog_1_method_4_code 22 = .ok (.putfield 41, 3) := by decide +kernel
theorem dc_CP_trim_25 : decode prog_1_method_4_code 25 = .ok (.iconst 1, 1) := by decide +kernel
theorem dc_CP_trim_26 : decode prog_1_method_4_code 26 = .ok (.ireturn, 1) := by decide +kernel
theorem dc_CP_length_0 : decode prog_1_method_5_code 0 = .ok (.aload_n 0, 1) := by decide +kernel
theorem dc_CP_length_1 : decode prog_1_method_5_code 1 = .ok (.getfield 20, 3) := by decide +kernel
theorem dc_CP_length_4 : decode prog_1_method_5_code 4 = .ok (.getfield 41, 3) := by decide +kernel
theorem dc_CP_length_7 : decode prog_1_method_5_code 7 = .ok (.ireturn, 1) := by decide +kernel
theorem dc_CP_byteAt_0 : decode prog_1_method_6_code 0 = .ok (.aload_n 0, 1) := by decide +kernel
theorem dc_CP_byteAt_1 : decode prog_1_method_6_code 1 = .ok (.getfield 20, 3) := by decide +kernel
theorem dc_CP_byteAt_4 : decode prog_1_method_6_code 4 = .ok (.iload_n 1, 1) := by decide +kernel
theorem dc_CP_byteAt_5 : decode prog_1_method_6_code 5 = .ok (.invokevirtual 50, 3) := by decide +kernel
theorem dc_CP_byteAt_8 : decode prog_1_method_6_code 8 = .ok (.ifCond .eq 15, 3) := by decide +kernel
theorem dc_CP_byteAt_11 : decode prog_1_method_6_code 11 = .ok (.aload_n 0, 1) := by decide +kernel
theorem dc_CP_byteAt_12 : decode prog_1_method_6_code 12 = .ok (.getfield 20, 3) := by decide +kernel
theorem dc_CP_byteAt_15 : decode prog_1_method_6_code 15 = .ok (.getfield 54, 3) := by decide +kernel
theorem dc_CP_byteAt_18 : decode prog_1_method_6_code 18 = .ok (.iload_n 1, 1) := by decide +kernel
theorem dc_CP_byteAt_19 : decode prog_1_method_6_code 19 = .ok (.iaload, 1) := by decide +kernel
theorem dc_CP_byteAt_20 : decode prog_1_method_6_code 20 = .ok (.goto 4, 3) := by decide +kernel
theorem dc_CP_byteAt_23 : decode prog_1_method_6_code 23 = .ok (.iconst (-1), 1) := by decide +kernel
theorem dc_CP_byteAt_24 : decode prog_1_method_6_code 24 = .ok (.ireturn, 1) := by decide +kernel
theorem dc_CP_hash_0 : decode prog_1_method_7_code 0 = .ok (.iload_n 1, 1) := by decide +kernel
theorem dc_CP_hash_1 : decode prog_1_method_7_code 1 = .ok (.ifCond .lt 19, 3) := by decide +kernel
theorem dc_CP_hash_4 : decode prog_1_method_7_code 4 = .ok (.iload_n 1, 1) := by decide +kernel
theorem dc_CP_hash_5 : decode prog_1_method_7_code 5 = .ok (.iload_n 2, 1) := by decide +kernel
theorem dc_CP_hash_6 : decode prog_1_method_7_code 6 = .ok (.if_icmp .gt 14, 3) := by decide +kernel
theorem dc_CP_hash_9 : decode prog_1_method_7_code 9 = .ok (.iload_n 2, 1) := by decide +kernel
theorem dc_CP_hash_10 : decode prog_1_method_7_code 10 = .ok (.aload_n 0, 1) := by decide +kernel
theorem dc_CP_hash_11 : decode prog_1_method_7_code 11 = .ok (.getfield 20, 3) := by decide +kernel
theorem dc_CP_hash_14 : decode prog_1_method_7_code 14 = .ok (.getfield 41, 3) := by decide +kernel
theorem dc_CP_hash_17 : decode prog_1_method_7_code 17 = .ok (.if_icmp .le 5, 3) := by decide +kernel
theorem dc_CP_hash_20 : decode prog_1_method_7_code 20 = .ok (.iconst (-1), 1) := by decide +kernel
theorem dc_CP_hash_21 : decode prog_1_method_7_code 21 = .ok (.ireturn, 1) := by decide +kernel
theorem dc_CP_hash_22 : decode prog_1_method_7_code 22 = .ok (.aload_n 0, 1) := by decide +kernel
theorem dc_CP_hash_23 : decode prog_1_method_7_code 23 = .ok (.getfield 20, 3) := by decide +kernel
theorem dc_CP_hash_26 : decode prog_1_method_7_code 26 = .ok (.iload_n 1, 1) := by decide +kernel
theorem dc_CP_hash_27 : decode prog_1_method_7_code 27 = .ok (.iload_n 2, 1) := by decide +kernel
theorem dc_CP_hash_28 : decode prog_1_method_7_code 28 = .ok (.invokevirtual 57, 3) := by decide +kernel
theorem dc_CP_hash_31 : decode prog_1_method_7_code 31 = .ok (.ireturn, 1) := by decide +kernel
theorem dc_CP_accept_0 : decode prog_1_method_8_code 0 = .ok (.aload_n 0, 1) := by decide +kernel
theorem dc_CP_accept_1 : decode prog_1_method_8_code 1 = .ok (.getfield 25, 3) := by decide +kernel
theorem dc_CP_accept_4 : decode prog_1_method_8_code 4 = .ok (.aload_n 0, 1) := by decide +kernel
theorem dc_CP_accept_5 : decode prog_1_method_8_code 5 = .ok (.getfield 30, 3) := by decide +kernel
theorem dc_CP_accept_8 : decode prog_1_method_8_code 8 = .ok (.aaload, 1) := by decide +kernel
theorem dc_CP_accept_9 : decode prog_1_method_8_code 9 = .ok (.aload_n 0, 1) := by decide +kernel
theorem dc_CP_accept_10 : decode prog_1_method_8_code 10 = .ok (.getfield 10, 3) := by decide +kernel
theorem dc_CP_accept_13 : decode prog_1_method_8_code 13 = .ok (.invokevirtual 61, 3) := by decide +kernel
theorem dc_CP_accept_16 : decode prog_1_method_8_code 16 = .ok (.ifCond .ne 5, 3) := by decide +kernel
theorem dc_CP_accept_19 : decode prog_1_method_8_code 19 = .ok (.iconst (-1), 1) := by decide +kernel
theorem dc_CP_accept_20 : decode prog_1_method_8_code 20 = .ok (.ireturn, 1) := by decide +kernel
theorem dc_CP_accept_21 : decode prog_1_method_8_code 21 = .ok (.aload_n 0, 1) := by decide +kernel
theorem dc_CP_accept_22 : decode prog_1_method_8_code 22 = .ok (.getfield 30, 3) := by decide +kernel
theorem dc_CP_accept_25 : decode prog_1_method_8_code 25 = .ok (.bipush 8, 2) := by decide +kernel
theorem dc_CP_accept_27 : decode prog_1_method_8_code 27 = .ok (.if_icmp .ne 6, 3) := by decide +kernel
theorem dc_CP_accept_30 : decode prog_1_method_8_code 30 = .ok (.bipush (-2), 2) := by decide +kernel
theorem dc_CP_accept_32 : decode prog_1_method_8_code 32 = .ok (.ireturn, 1) := by decide +kernel
theorem dc_CP_accept_33 : decode prog_1_method_8_code 33 = .ok (.aload_n 0, 1) := by decide +kernel
theorem dc_CP_accept_34 : decode prog_1_method_8_code 34 = .ok (.dup, 1) := by decide +kernel
theorem dc_CP_accept_35 : decode prog_1_method_8_code 35 = .ok (.getfield 30, 3) := by decide +kernel
theorem dc_CP_accept_38 : decode prog_1_method_8_code 38 = .ok (.iconst 1, 1) := by decide +kernel
theorem dc_CP_accept_39 : decode prog_1_method_8_code 39 = .ok (.iadd, 1) := by decide +kernel
theorem dc_CP_accept_40 : decode prog_1_method_8_code 40 = .ok (.putfield 30, 3) := by decide +kernel
theorem dc_CP_accept_43 : decode prog_1_method_8_code 43 = .ok (.aload_n 0, 1) := by decide +kernel
theorem dc_CP_accept_44 : decode prog_1_method_8_code 44 = .ok (.getfield 30, 3) := by decide +kernel
theorem dc_CP_accept_47 : decode prog_1_method_8_code 47 = .ok (.iconst 1, 1) := by decide +kernel
theorem dc_CP_accept_48 : decode prog_1_method_8_code 48 = .ok (.isub, 1) := by decide +kernel
theorem dc_CP_accept_49 : decode prog_1_method_8_code 49 = .ok (.ireturn, 1) := by decide +kernel
theorem dc_CP_count_0 : decode prog_1_method_9_code 0 = .ok (.aload_n 0, 1) := by decide +kernel
theorem dc_CP_count_1 : decode prog_1_method_9_code 1 = .ok (.getfield 30, 3) := by decide +kernel
theorem dc_CP_count_4 : decode prog_1_method_9_code 4 = .ok (.ireturn, 1) := by decide +kernel
theorem dc_CP_field_0 : decode prog_1_method_10_code 0 = .ok (.aload_n 0, 1) := by decide +kernel
theorem dc_CP_field_1 : decode prog_1_method_10_code 1 = .ok (.iload_n 1, 1) := by decide +kernel
theorem dc_CP_field_2 : decode prog_1_method_10_code 2 = .ok (.invokevirtual 65, 3) := by decide +kernel
theorem dc_CP_field_5 : decode prog_1_method_10_code 5 = .ok (.ifCond .eq 16, 3) := by decide +kernel
theorem dc_CP_field_8 : decode prog_1_method_10_code 8 = .ok (.aload_n 0, 1) := by decide +kernel
theorem dc_CP_field_9 : decode prog_1_method_10_code 9 = .ok (.getfield 25, 3) := by decide +kernel
theorem dc_CP_field_12 : decode prog_1_method_10_code 12 = .ok (.iload_n 1, 1) := by decide +kernel
theorem dc_CP_field_13 : decode prog_1_method_10_code 13 = .ok (.aaload, 1) := by decide +kernel
theorem dc_CP_field_14 : decode prog_1_method_10_code 14 = .ok (.iload_n 2, 1) := by decide +kernel
theorem dc_CP_field_15 : decode prog_1_method_10_code 15 = .ok (.invokevirtual 68, 3) := by decide +kernel
theorem dc_CP_field_18 : decode prog_1_method_10_code 18 = .ok (.goto 4, 3) := by decide +kernel
theorem dc_CP_field_21 : decode prog_1_method_10_code 21 = .ok (.iconst (-1), 1) := by decide +kernel
theorem dc_CP_field_22 : decode prog_1_method_10_code 22 = .ok (.ireturn, 1) := by decide +kernel
theorem dc_CP_within_0 : decode prog_1_method_11_code 0 = .ok (.aload_n 0, 1) := by decide +kernel
theorem dc_CP_within_1 : decode prog_1_method_11_code 1 = .ok (.iload_n 1, 1) := by decide +kernel
theorem dc_CP_within_2 : decode prog_1_method_11_code 2 = .ok (.invokevirtual 65, 3) := by decide +kernel
theorem dc_CP_within_5 : decode prog_1_method_11_code 5 = .ok (.ifCond .eq 11, 3) := by decide +kernel
theorem dc_CP_within_8 : decode prog_1_method_11_code 8 = .ok (.aload_n 0, 1) := by decide +kernel
theorem dc_CP_within_9 : decode prog_1_method_11_code 9 = .ok (.iload_n 3, 1) := by decide +kernel
theorem dc_CP_within_10 : decode prog_1_method_11_code 10 = .ok (.invokevirtual 65, 3) := by decide +kernel
theorem dc_CP_within_13 : decode prog_1_method_11_code 13 = .ok (.ifCond .ne 5, 3) := by decide +kernel
theorem dc_CP_within_16 : decode prog_1_method_11_code 16 = .ok (.iconst 0, 1) := by decide +kernel
theorem dc_CP_within_17 : decode prog_1_method_11_code 17 = .ok (.ireturn, 1) := by decide +kernel
theorem dc_CP_within_18 : decode prog_1_method_11_code 18 = .ok (.aload_n 0, 1) := by decide +kernel
theorem dc_CP_within_19 : decode prog_1_method_11_code 19 = .ok (.iload_n 1, 1) := by decide +kernel
theorem dc_CP_within_20 : decode prog_1_method_11_code 20 = .ok (.iload_n 2, 1) := by decide +kernel
theorem dc_CP_within_21 : decode prog_1_method_11_code 21 = .ok (.invokevirtual 71, 3) := by decide +kernel
theorem dc_CP_within_24 : decode prog_1_method_11_code 24 = .ok (.aload_n 0, 1) := by decide +kernel
theorem dc_CP_within_25 : decode prog_1_method_11_code 25 = .ok (.iload_n 3, 1) := by decide +kernel
theorem dc_CP_within_26 : decode prog_1_method_11_code 26 = .ok (.iload 4, 2) := by decide +kernel
theorem dc_CP_within_28 : decode prog_1_method_11_code 28 = .ok (.invokevirtual 71, 3) := by decide +kernel
theorem dc_CP_within_31 : decode prog_1_method_11_code 31 = .ok (.invokevirtual 75, 3) := by decide +kernel
theorem dc_CP_within_34 : decode prog_1_method_11_code 34 = .ok (.ireturn, 1) := by decide +kernel
theorem dc_CP_recode_0 : decode prog_1_method_12_code 0 = .ok (.aload_n 0, 1) := by decide +kernel
theorem dc_CP_recode_1 : decode prog_1_method_12_code 1 = .ok (.iload_n 1, 1) := by decide +kernel
theorem dc_CP_recode_2 : decode prog_1_method_12_code 2 = .ok (.invokevirtual 65, 3) := by decide +kernel
theorem dc_CP_recode_5 : decode prog_1_method_12_code 5 = .ok (.ifCond .ne 5, 3) := by decide +kernel
theorem dc_CP_recode_8 : decode prog_1_method_12_code 8 = .ok (.iconst (-1), 1) := by decide +kernel
theorem dc_CP_recode_9 : decode prog_1_method_12_code 9 = .ok (.ireturn, 1) := by decide +kernel
theorem dc_CP_recode_10 : decode prog_1_method_12_code 10 = .ok (.aload_n 0, 1) := by decide +kernel
theorem dc_CP_recode_11 : decode prog_1_method_12_code 11 = .ok (.getfield 20, 3) := by decide +kernel
theorem dc_CP_recode_14 : decode prog_1_method_12_code 14 = .ok (.iconst 0, 1) := by decide +kernel
theorem dc_CP_recode_15 : decode prog_1_method_12_code 15 = .ok (.putfield 41, 3) := by decide +kernel
theorem dc_CP_recode_18 : decode prog_1_method_12_code 18 = .ok (.aload_n 0, 1) := by decide +kernel
theorem dc_CP_recode_19 : decode prog_1_method_12_code 19 = .ok (.getfield 25, 3) := by decide +kernel
theorem dc_CP_recode_22 : decode prog_1_method_12_code 22 = .ok (.iload_n 1, 1) := by decide +kernel
theorem dc_CP_recode_23 : decode prog_1_method_12_code 23 = .ok (.aaload, 1) := by decide +kernel
theorem dc_CP_recode_24 : decode prog_1_method_12_code 24 = .ok (.aload_n 0, 1) := by decide +kernel
theorem dc_CP_recode_25 : decode prog_1_method_12_code 25 = .ok (.getfield 20, 3) := by decide +kernel
theorem dc_CP_recode_28 : decode prog_1_method_12_code 28 = .ok (.invokevirtual 81, 3) := by decide +kernel
theorem dc_CP_recode_31 : decode prog_1_method_12_code 31 = .ok (.aload_n 0, 1) := by decide +kernel
theorem dc_CP_recode_32 : decode prog_1_method_12_code 32 = .ok (.getfield 20, 3) := by decide +kernel
theorem dc_CP_recode_35 : decode prog_1_method_12_code 35 = .ok (.getfield 41, 3) := by decide +kernel
theorem dc_CP_recode_38 : decode prog_1_method_12_code 38 = .ok (.ireturn, 1) := by decide +kernel
theorem dc_CP_link_0 : decode prog_1_method_13_code 0 = .ok (.aload_n 0, 1) := by decide +kernel
theorem dc_CP_link_1 : decode prog_1_method_13_code 1 = .ok (.iload_n 1, 1) := by decide +kernel
theorem dc_CP_link_2 : decode prog_1_method_13_code 2 = .ok (.invokevirtual 65, 3) := by decide +kernel
theorem dc_CP_link_5 : decode prog_1_method_13_code 5 = .ok (.ifCond .eq 12, 3) := by decide +kernel
theorem dc_CP_link_8 : decode prog_1_method_13_code 8 = .ok (.aload_n 0, 1) := by decide +kernel
theorem dc_CP_link_9 : decode prog_1_method_13_code 9 = .ok (.getfield 38, 3) := by decide +kernel
theorem dc_CP_link_12 : decode prog_1_method_13_code 12 = .ok (.bipush 6, 2) := by decide +kernel
theorem dc_CP_link_14 : decode prog_1_method_13_code 14 = .ok (.if_icmp .ne 5, 3) := by decide +kernel
theorem dc_CP_link_17 : decode prog_1_method_13_code 17 = .ok (.iconst 0, 1) := by decide +kernel
theorem dc_CP_link_18 : decode prog_1_method_13_code 18 = .ok (.ireturn, 1) := by decide +kernel
theorem dc_CP_link_19 : decode prog_1_method_13_code 19 = .ok (.aload_n 0, 1) := by decide +kernel
theorem dc_CP_link_20 : decode prog_1_method_13_code 20 = .ok (.getfield 34, 3) := by decide +kernel
theorem dc_CP_link_23 : decode prog_1_method_13_code 23 = .ok (.aload_n 0, 1) := by decide +kernel
theorem dc_CP_link_24 : decode prog_1_method_13_code 24 = .ok (.getfield 38, 3) := by decide +kernel
theorem dc_CP_link_27 : decode prog_1_method_13_code 27 = .ok (.iload_n 1, 1) := by decide +kernel
theorem dc_CP_link_28 : decode prog_1_method_13_code 28 = .ok (.iastore, 1) := by decide +kernel
theorem dc_CP_link_29 : decode prog_1_method_13_code 29 = .ok (.aload_n 0, 1) := by decide +kernel
theorem dc_CP_link_30 : decode prog_1_method_13_code 30 = .ok (.dup, 1) := by decide +kernel
theorem dc_CP_link_31 : decode prog_1_method_13_code 31 = .ok (.getfield 38, 3) := by decide +kernel
theorem dc_CP_link_34 : decode prog_1_method_13_code 34 = .ok (.iconst 1, 1) := by decide +kernel
theorem dc_CP_link_35 : decode prog_1_method_13_code 35 = .ok (.iadd, 1) := by decide +kernel
theorem dc_CP_link_36 : decode prog_1_method_13_code 36 = .ok (.putfield 38, 3) := by decide +kernel
theorem dc_CP_link_39 : decode prog_1_method_13_code 39 = .ok (.iconst 1, 1) := by decide +kernel
theorem dc_CP_link_40 : decode prog_1_method_13_code 40 = .ok (.ireturn, 1) := by decide +kernel
theorem dc_CP_unlink_0 : decode prog_1_method_14_code 0 = .ok (.aload_n 0, 1) := by decide +kernel
theorem dc_CP_unlink_1 : decode prog_1_method_14_code 1 = .ok (.getfield 38, 3) := by decide +kernel
theorem dc_CP_unlink_4 : decode prog_1_method_14_code 4 = .ok (.ifCond .ne 5, 3) := by decide +kernel
theorem dc_CP_unlink_7 : decode prog_1_method_14_code 7 = .ok (.iconst 0, 1) := by decide +kernel
theorem dc_CP_unlink_8 : decode prog_1_method_14_code 8 = .ok (.ireturn, 1) := by decide +kernel
theorem dc_CP_unlink_9 : decode prog_1_method_14_code 9 = .ok (.aload_n 0, 1) := by decide +kernel
theorem dc_CP_unlink_10 : decode prog_1_method_14_code 10 = .ok (.dup, 1) := by decide +kernel
theorem dc_CP_unlink_11 : decode prog_1_method_14_code 11 = .ok (.getfield 38, 3) := by decide +kernel
theorem dc_CP_unlink_14 : decode prog_1_method_14_code 14 = .ok (.iconst 1, 1) := by decide +kernel
theorem dc_CP_unlink_15 : decode prog_1_method_14_code 15 = .ok (.isub, 1) := by decide +kernel
theorem dc_CP_unlink_16 : decode prog_1_method_14_code 16 = .ok (.putfield 38, 3) := by decide +kernel
theorem dc_CP_unlink_19 : decode prog_1_method_14_code 19 = .ok (.iconst 1, 1) := by decide +kernel
theorem dc_CP_unlink_20 : decode prog_1_method_14_code 20 = .ok (.ireturn, 1) := by decide +kernel
theorem dc_CP_links_0 : decode prog_1_method_15_code 0 = .ok (.aload_n 0, 1) := by decide +kernel
theorem dc_CP_links_1 : decode prog_1_method_15_code 1 = .ok (.getfield 38, 3) := by decide +kernel
theorem dc_CP_links_4 : decode prog_1_method_15_code 4 = .ok (.ireturn, 1) := by decide +kernel
theorem dc_CP_check_0 : decode prog_1_method_16_code 0 = .ok (.aload_n 0, 1) := by decide +kernel
theorem dc_CP_check_1 : decode prog_1_method_16_code 1 = .ok (.iload_n 1, 1) := by decide +kernel
theorem dc_CP_check_2 : decode prog_1_method_16_code 2 = .ok (.invokevirtual 65, 3) := by decide +kernel
theorem dc_CP_check_5 : decode prog_1_method_16_code 5 = .ok (.ifCond .eq 21, 3) := by decide +kernel
theorem dc_CP_check_8 : decode prog_1_method_16_code 8 = .ok (.aload_n 0, 1) := by decide +kernel
theorem dc_CP_check_9 : decode prog_1_method_16_code 9 = .ok (.getfield 38, 3) := by decide +kernel
theorem dc_CP_check_12 : decode prog_1_method_16_code 12 = .ok (.ifCond .eq 14, 3) := by decide +kernel
theorem dc_CP_check_15 : decode prog_1_method_16_code 15 = .ok (.iload_n 3, 1) := by decide +kernel
theorem dc_CP_check_16 : decode prog_1_method_16_code 16 = .ok (.ifCond .lt 10, 3) := by decide +kernel
theorem dc_CP_check_19 : decode prog_1_method_16_code 19 = .ok (.iload_n 3, 1) := by decide +kernel
theorem dc_CP_check_20 : decode prog_1_method_16_code 20 = .ok (.sipush 255, 3) := by decide +kernel
theorem dc_CP_check_23 : decode prog_1_method_16_code 23 = .ok (.if_icmp .le 5, 3) := by decide +kernel
theorem dc_CP_check_26 : decode prog_1_method_16_code 26 = .ok (.iconst (-1), 1) := by decide +kernel
theorem dc_CP_check_27 : decode prog_1_method_16_code 27 = .ok (.ireturn, 1) := by decide +kernel
theorem dc_CP_check_28 : decode prog_1_method_16_code 28 = .ok (.aload_n 0, 1) := by decide +kernel
theorem dc_CP_check_29 : decode prog_1_method_16_code 29 = .ok (.getfield 25, 3) := by decide +kernel
theorem dc_CP_check_32 : decode prog_1_method_16_code 32 = .ok (.iload_n 1, 1) := by decide +kernel
theorem dc_CP_check_33 : decode prog_1_method_16_code 33 = .ok (.aaload, 1) := by decide +kernel
theorem dc_CP_check_34 : decode prog_1_method_16_code 34 = .ok (.astore 4, 2) := by decide +kernel
theorem dc_CP_check_36 : decode prog_1_method_16_code 36 = .ok (.aload_n 0, 1) := by decide +kernel
theorem dc_CP_check_37 : decode prog_1_method_16_code 37 = .ok (.getfield 38, 3) := by decide +kernel
theorem dc_CP_check_40 : decode prog_1_method_16_code 40 = .ok (.istore 5, 2) := by decide +kernel
theorem dc_CP_check_42 : decode prog_1_method_16_code 42 = .ok (.iconst 0, 1) := by decide +kernel
theorem dc_CP_check_43 : decode prog_1_method_16_code 43 = .ok (.istore 6, 2) := by decide +kernel
theorem dc_CP_check_45 : decode prog_1_method_16_code 45 = .ok (.iload 6, 2) := by decide +kernel
theorem dc_CP_check_47 : decode prog_1_method_16_code 47 = .ok (.aload_n 0, 1) := by decide +kernel
theorem dc_CP_check_48 : decode prog_1_method_16_code 48 = .ok (.getfield 38, 3) := by decide +kernel
theorem dc_CP_check_51 : decode prog_1_method_16_code 51 = .ok (.if_icmp .ge 107, 3) := by decide +kernel
theorem dc_CP_check_54 : decode prog_1_method_16_code 54 = .ok (.aload_n 0, 1) := by decide +kernel
theorem dc_CP_check_55 : decode prog_1_method_16_code 55 = .ok (.getfield 25, 3) := by decide +kernel
theorem dc_CP_check_58 : decode prog_1_method_16_code 58 = .ok (.aload_n 0, 1) := by decide +kernel
theorem dc_CP_check_59 : decode prog_1_method_16_code 59 = .ok (.getfield 34, 3) := by decide +kernel
theorem dc_CP_check_62 : decode prog_1_method_16_code 62 = .ok (.iload 6, 2) := by decide +kernel
theorem dc_CP_check_64 : decode prog_1_method_16_code 64 = .ok (.iaload, 1) := by decide +kernel
theorem dc_CP_check_65 : decode prog_1_method_16_code 65 = .ok (.aaload, 1) := by decide +kernel
theorem dc_CP_check_66 : decode prog_1_method_16_code 66 = .ok (.astore 7, 2) := by decide +kernel
theorem dc_CP_check_68 : decode prog_1_method_16_code 68 = .ok (.iload 6, 2) := by decide +kernel
theorem dc_CP_check_70 : decode prog_1_method_16_code 70 = .ok (.aload_n 0, 1) := by decide +kernel
theorem dc_CP_check_71 : decode prog_1_method_16_code 71 = .ok (.getfield 38, 3) := by decide +kernel
theorem dc_CP_check_74 : decode prog_1_method_16_code 74 = .ok (.iconst 1, 1) := by decide +kernel
theorem dc_CP_check_75 : decode prog_1_method_16_code 75 = .ok (.isub, 1) := by decide +kernel
theorem dc_CP_check_76 : decode prog_1_method_16_code 76 = .ok (.if_icmp .ne 7, 3) := by decide +kernel
theorem dc_CP_check_79 : decode prog_1_method_16_code 79 = .ok (.iconst 1, 1) := by decide +kernel
theorem dc_CP_check_80 : decode prog_1_method_16_code 80 = .ok (.goto 4, 3) := by decide +kernel
theorem dc_CP_check_83 : decode prog_1_method_16_code 83 = .ok (.iconst 0, 1) := by decide +kernel
theorem dc_CP_check_84 : decode prog_1_method_16_code 84 = .ok (.istore 8, 2) := by decide +kernel
theorem dc_CP_check_86 : decode prog_1_method_16_code 86 = .ok (.aload_n 0, 1) := by decide +kernel
theorem dc_CP_check_87 : decode prog_1_method_16_code 87 = .ok (.aload 4, 2) := by decide +kernel
theorem dc_CP_check_89 : decode prog_1_method_16_code 89 = .ok (.iload 6, 2) := by decide +kernel
theorem dc_CP_check_91 : decode prog_1_method_16_code 91 = .ok (.iload_n 2, 1) := by decide +kernel
theorem dc_CP_check_92 : decode prog_1_method_16_code 92 = .ok (.invokevirtual 85, 3) := by decide +kernel
theorem dc_CP_check_95 : decode prog_1_method_16_code 95 = .ok (.istore 9, 2) := by decide +kernel
theorem dc_CP_check_97 : decode prog_1_method_16_code 97 = .ok (.iload 9, 2) := by decide +kernel
theorem dc_CP_check_99 : decode prog_1_method_16_code 99 = .ok (.ifCond .ne 26, 3) := by decide +kernel
theorem dc_CP_check_102 : decode prog_1_method_16_code 102 = .ok (.iload 8, 2) := by decide +kernel
theorem dc_CP_check_104 : decode prog_1_method_16_code 104 = .ok (.ifCond .eq 12, 3) := by decide +kernel
theorem dc_CP_check_107 : decode prog_1_method_16_code 107 = .ok (.aload 7, 2) := by decide +kernel
theorem dc_CP_check_109 : decode prog_1_method_16_code 109 = .ok (.iload_n 3, 1) := by decide +kernel
theorem dc_CP_check_110 : decode prog_1_method_16_code 110 = .ok (.invokevirtual 89, 3) := by decide +kernel
theorem dc_CP_check_113 : decode prog_1_method_16_code 113 = .ok (.goto 10, 3) := by decide +kernel
theorem dc_CP_check_116 : decode prog_1_method_16_code 116 = .ok (.aload 7, 2) := by decide +kernel
theorem dc_CP_check_118 : decode prog_1_method_16_code 118 = .ok (.iload 5, 2) := by decide +kernel
theorem dc_CP_check_120 : decode prog_1_method_16_code 120 = .ok (.invokevirtual 92, 3) := by decide +kernel
theorem dc_CP_check_123 : decode prog_1_method_16_code 123 = .ok (.istore 9, 2) := by decide +kernel
theorem dc_CP_check_125 : decode prog_1_method_16_code 125 = .ok (.iload 9, 2) := by decide +kernel
theorem dc_CP_check_127 : decode prog_1_method_16_code 127 = .ok (.ifCond .eq 12, 3) := by decide +kernel
theorem dc_CP_check_130 : decode prog_1_method_16_code 130 = .ok (.bipush 16, 2) := by decide +kernel
theorem dc_CP_check_132 : decode prog_1_method_16_code 132 = .ok (.iload 6, 2) := by decide +kernel
theorem dc_CP_check_134 : decode prog_1_method_16_code 134 = .ok (.imul, 1) := by decide +kernel
theorem dc_CP_check_135 : decode prog_1_method_16_code 135 = .ok (.iload 9, 2) := by decide +kernel
theorem dc_CP_check_137 : decode prog_1_method_16_code 137 = .ok (.iadd, 1) := by decide +kernel
theorem dc_CP_check_138 : decode prog_1_method_16_code 138 = .ok (.ireturn, 1) := by decide +kernel
theorem dc_CP_check_139 : decode prog_1_method_16_code 139 = .ok (.aload 7, 2) := by decide +kernel
theorem dc_CP_check_141 : decode prog_1_method_16_code 141 = .ok (.iload 5, 2) := by decide +kernel
theorem dc_CP_check_143 : decode prog_1_method_16_code 143 = .ok (.invokevirtual 95, 3) := by decide +kernel
theorem dc_CP_check_146 : decode prog_1_method_16_code 146 = .ok (.istore 5, 2) := by decide +kernel
theorem dc_CP_check_148 : decode prog_1_method_16_code 148 = .ok (.aload 7, 2) := by decide +kernel
theorem dc_CP_check_150 : decode prog_1_method_16_code 150 = .ok (.astore 4, 2) := by decide +kernel
theorem dc_CP_check_152 : decode prog_1_method_16_code 152 = .ok (.iinc 6 1, 3) := by decide +kernel
theorem dc_CP_check_155 : decode prog_1_method_16_code 155 = .ok (.goto (-110), 3) := by decide +kernel
theorem dc_CP_check_158 : decode prog_1_method_16_code 158 = .ok (.iconst 0, 1) := by decide +kernel
theorem dc_CP_check_159 : decode prog_1_method_16_code 159 = .ok (.ireturn, 1) := by decide +kernel
theorem dc_CP_reset_0 : decode prog_1_method_17_code 0 = .ok (.aload_n 0, 1) := by decide +kernel
theorem dc_CP_reset_1 : decode prog_1_method_17_code 1 = .ok (.iconst 0, 1) := by decide +kernel
theorem dc_CP_reset_2 : decode prog_1_method_17_code 2 = .ok (.putfield 30, 3) := by decide +kernel
theorem dc_CP_reset_5 : decode prog_1_method_17_code 5 = .ok (.aload_n 0, 1) := by decide +kernel
theorem dc_CP_reset_6 : decode prog_1_method_17_code 6 = .ok (.iconst 0, 1) := by decide +kernel
theorem dc_CP_reset_7 : decode prog_1_method_17_code 7 = .ok (.putfield 38, 3) := by decide +kernel
theorem dc_CP_reset_10 : decode prog_1_method_17_code 10 = .ok (.return_, 1) := by decide +kernel
theorem dc_CP_isKept_0 : decode prog_1_method_18_code 0 = .ok (.iload_n 1, 1) := by decide +kernel
theorem dc_CP_isKept_1 : decode prog_1_method_18_code 1 = .ok (.ifCond .lt 15, 3) := by decide +kernel
theorem dc_CP_isKept_4 : decode prog_1_method_18_code 4 = .ok (.iload_n 1, 1) := by decide +kernel
theorem dc_CP_isKept_5 : decode prog_1_method_18_code 5 = .ok (.aload_n 0, 1) := by decide +kernel
theorem dc_CP_isKept_6 : decode prog_1_method_18_code 6 = .ok (.getfield 30, 3) := by decide +kernel
theorem dc_CP_isKept_9 : decode prog_1_method_18_code 9 = .ok (.if_icmp .ge 7, 3) := by decide +kernel
theorem dc_CP_isKept_12 : decode prog_1_method_18_code 12 = .ok (.iconst 1, 1) := by decide +kernel
theorem dc_CP_isKept_13 : decode prog_1_method_18_code 13 = .ok (.goto 4, 3) := by decide +kernel
theorem dc_CP_isKept_16 : decode prog_1_method_18_code 16 = .ok (.iconst 0, 1) := by decide +kernel
theorem dc_CP_isKept_17 : decode prog_1_method_18_code 17 = .ok (.ireturn, 1) := by decide +kernel
theorem dc_CP_nameOf_0 : decode prog_1_method_19_code 0 = .ok (.iload_n 2, 1) := by decide +kernel
theorem dc_CP_nameOf_1 : decode prog_1_method_19_code 1 = .ok (.ifCond .eq 15, 3) := by decide +kernel
theorem dc_CP_nameOf_4 : decode prog_1_method_19_code 4 = .ok (.aload_n 0, 1) := by decide +kernel
theorem dc_CP_nameOf_5 : decode prog_1_method_19_code 5 = .ok (.getfield 25, 3) := by decide +kernel
theorem dc_CP_nameOf_8 : decode prog_1_method_19_code 8 = .ok (.iload_n 1, 1) := by decide +kernel
theorem dc_CP_nameOf_9 : decode prog_1_method_19_code 9 = .ok (.aaload, 1) := by decide +kernel
theorem dc_CP_nameOf_10 : decode prog_1_method_19_code 10 = .ok (.getfield 98, 3) := by decide +kernel
theorem dc_CP_nameOf_13 : decode prog_1_method_19_code 13 = .ok (.goto 12, 3) := by decide +kernel
theorem dc_CP_nameOf_16 : decode prog_1_method_19_code 16 = .ok (.aload_n 0, 1) := by decide +kernel
theorem dc_CP_nameOf_17 : decode prog_1_method_19_code 17 = .ok (.getfield 25, 3) := by decide +kernel
theorem dc_CP_nameOf_20 : decode prog_1_method_19_code 20 = .ok (.iload_n 1, 1) := by decide +kernel
theorem dc_CP_nameOf_21 : decode prog_1_method_19_code 21 = .ok (.aaload, 1) := by decide +kernel
theorem dc_CP_nameOf_22 : decode prog_1_method_19_code 22 = .ok (.getfield 102, 3) := by decide +kernel
theorem dc_CP_nameOf_25 : decode prog_1_method_19_code 25 = .ok (.areturn, 1) := by decide +kernel
theorem dc_CP_brokenAnywhere_0 : decode prog_1_method_20_code 0 = .ok (.aload_n 0, 1) := by decide +kernel
theorem dc_CP_brokenAnywhere_1 : decode prog_1_method_20_code 1 = .ok (.getfield 25, 3) := by decide +kernel
theorem dc_CP_brokenAnywhere_4 : decode prog_1_method_20_code 4 = .ok (.aload_n 0, 1) := by decide +kernel
theorem dc_CP_brokenAnywhere_5 : decode prog_1_method_20_code 5 = .ok (.getfield 34, 3) := by decide +kernel
theorem dc_CP_brokenAnywhere_8 : decode prog_1_method_20_code 8 = .ok (.iload_n 2, 1) := by decide +kernel
theorem dc_CP_brokenAnywhere_9 : decode prog_1_method_20_code 9 = .ok (.iaload, 1) := by decide +kernel
theorem dc_CP_brokenAnywhere_10 : decode prog_1_method_20_code 10 = .ok (.aaload, 1) := by decide +kernel
theorem dc_CP_brokenAnywhere_11 : decode prog_1_method_20_code 11 = .ok (.astore 4, 2) := by decide +kernel
theorem dc_CP_brokenAnywhere_13 : decode prog_1_method_20_code 13 = .ok (.iload_n 2, 1) := by decide +kernel
theorem dc_CP_brokenAnywhere_14 : decode prog_1_method_20_code 14 = .ok (.aload_n 0, 1) := by decide +kernel
theorem dc_CP_brokenAnywhere_15 : decode prog_1_method_20_code 15 = .ok (.getfield 38, 3) := by decide +kernel
theorem dc_CP_brokenAnywhere_18 : decode prog_1_method_20_code 18 = .ok (.iconst 1, 1) := by decide +kernel
theorem dc_CP_brokenAnywhere_19 : decode prog_1_method_20_code 19 = .ok (.isub, 1) := by decide +kernel
theorem dc_CP_brokenAnywhere_20 : decode prog_1_method_20_code 20 = .ok (.if_icmp .ne 7, 3) := by decide +kernel
theorem dc_CP_brokenAnywhere_23 : decode prog_1_method_20_code 23 = .ok (.iconst 1, 1) := by decide +kernel
theorem dc_CP_brokenAnywhere_24 : decode prog_1_method_20_code 24 = .ok (.goto 4, 3) := by decide +kernel
theorem dc_CP_brokenAnywhere_27 : decode prog_1_method_20_code 27 = .ok (.iconst 0, 1) := by decide +kernel
theorem dc_CP_brokenAnywhere_28 : decode prog_1_method_20_code 28 = .ok (.istore 5, 2) := by decide +kernel
theorem dc_CP_brokenAnywhere_30 : decode prog_1_method_20_code 30 = .ok (.aload 4, 2) := by decide +kernel
theorem dc_CP_brokenAnywhere_32 : decode prog_1_method_20_code 32 = .ok (.aload_n 1, 1) := by decide +kernel
theorem dc_CP_brokenAnywhere_33 : decode prog_1_method_20_code 33 = .ok (.getfield 105, 3) := by decide +kernel
theorem dc_CP_brokenAnywhere_36 : decode prog_1_method_20_code 36 = .ok (.aload_n 1, 1) := by decide +kernel
theorem dc_CP_brokenAnywhere_37 : decode prog_1_method_20_code 37 = .ok (.getfield 108, 3) := by decide +kernel
theorem dc_CP_brokenAnywhere_40 : decode prog_1_method_20_code 40 = .ok (.invokevirtual 111, 3) := by decide +kernel
theorem dc_CP_brokenAnywhere_43 : decode prog_1_method_20_code 43 = .ok (.ifCond .ne 5, 3) := by decide +kernel
theorem dc_CP_brokenAnywhere_46 : decode prog_1_method_20_code 46 = .ok (.iconst 1, 1) := by decide +kernel
theorem dc_CP_brokenAnywhere_47 : decode prog_1_method_20_code 47 = .ok (.ireturn, 1) := by decide +kernel
theorem dc_CP_brokenAnywhere_48 : decode prog_1_method_20_code 48 = .ok (.iload_n 3, 1) := by decide +kernel
theorem dc_CP_brokenAnywhere_49 : decode prog_1_method_20_code 49 = .ok (.aload 4, 2) := by decide +kernel
theorem dc_CP_brokenAnywhere_51 : decode prog_1_method_20_code 51 = .ok (.getfield 115, 3) := by decide +kernel
theorem dc_CP_brokenAnywhere_54 : decode prog_1_method_20_code 54 = .ok (.if_icmp .lt 12, 3) := by decide +kernel
theorem dc_CP_brokenAnywhere_57 : decode prog_1_method_20_code 57 = .ok (.iload_n 3, 1) := by decide +kernel
theorem dc_CP_brokenAnywhere_58 : decode prog_1_method_20_code 58 = .ok (.aload 4, 2) := by decide +kernel
theorem dc_CP_brokenAnywhere_60 : decode prog_1_method_20_code 60 = .ok (.getfield 118, 3) := by decide +kernel
theorem dc_CP_brokenAnywhere_63 : decode prog_1_method_20_code 63 = .ok (.if_icmp .le 5, 3) := by decide +kernel
theorem dc_CP_brokenAnywhere_66 : decode prog_1_method_20_code 66 = .ok (.iconst 2, 1) := by decide +kernel
theorem dc_CP_brokenAnywhere_67 : decode prog_1_method_20_code 67 = .ok (.ireturn, 1) := by decide +kernel
theorem dc_CP_brokenAnywhere_68 : decode prog_1_method_20_code 68 = .ok (.aload 4, 2) := by decide +kernel
theorem dc_CP_brokenAnywhere_70 : decode prog_1_method_20_code 70 = .ok (.getfield 98, 3) := by decide +kernel
theorem dc_CP_brokenAnywhere_73 : decode prog_1_method_20_code 73 = .ok (.aload_n 1, 1) := by decide +kernel
theorem dc_CP_brokenAnywhere_74 : decode prog_1_method_20_code 74 = .ok (.getfield 102, 3) := by decide +kernel
theorem dc_CP_brokenAnywhere_77 : decode prog_1_method_20_code 77 = .ok (.invokevirtual 121, 3) := by decide +kernel
theorem dc_CP_brokenAnywhere_80 : decode prog_1_method_20_code 80 = .ok (.ifCond .ne 5, 3) := by decide +kernel
theorem dc_CP_brokenAnywhere_83 : decode prog_1_method_20_code 83 = .ok (.iconst 3, 1) := by decide +kernel
theorem dc_CP_brokenAnywhere_84 : decode prog_1_method_20_code 84 = .ok (.ireturn, 1) := by decide +kernel
theorem dc_CP_brokenAnywhere_85 : decode prog_1_method_20_code 85 = .ok (.iload 5, 2) := by decide +kernel
theorem dc_CP_brokenAnywhere_87 : decode prog_1_method_20_code 87 = .ok (.ifCond .ne 11, 3) := by decide +kernel
theorem dc_CP_brokenAnywhere_90 : decode prog_1_method_20_code 90 = .ok (.aload 4, 2) := by decide +kernel
theorem dc_CP_brokenAnywhere_92 : decode prog_1_method_20_code 92 = .ok (.invokevirtual 124, 3) := by decide +kernel
theorem dc_CP_brokenAnywhere_95 : decode prog_1_method_20_code 95 = .ok (.ifCond .ne 13, 3) := by decide +kernel
theorem dc_CP_brokenAnywhere_98 : decode prog_1_method_20_code 98 = .ok (.aload_n 0, 1) := by decide +kernel
theorem dc_CP_brokenAnywhere_99 : decode prog_1_method_20_code 99 = .ok (.iload_n 2, 1) := by decide +kernel
theorem dc_CP_brokenAnywhere_100 : decode prog_1_method_20_code 100 = .ok (.invokevirtual 128, 3) := by decide +kernel
theorem dc_CP_brokenAnywhere_103 : decode prog_1_method_20_code 103 = .ok (.ifCond .ne 5, 3) := by decide +kernel
theorem dc_CP_brokenAnywhere_106 : decode prog_1_method_20_code 106 = .ok (.iconst 4, 1) := by decide +kernel
theorem dc_CP_brokenAnywhere_107 : decode prog_1_method_20_code 107 = .ok (.ireturn, 1) := by decide +kernel
theorem dc_CP_brokenAnywhere_108 : decode prog_1_method_20_code 108 = .ok (.aload 4, 2) := by decide +kernel
theorem dc_CP_brokenAnywhere_110 : decode prog_1_method_20_code 110 = .ok (.invokevirtual 131, 3) := by decide +kernel
theorem dc_CP_brokenAnywhere_113 : decode prog_1_method_20_code 113 = .ok (.ifCond .eq 7, 3) := by decide +kernel
theorem dc_CP_brokenAnywhere_116 : decode prog_1_method_20_code 116 = .ok (.iconst 5, 1) := by decide +kernel
theorem dc_CP_brokenAnywhere_117 : decode prog_1_method_20_code 117 = .ok (.goto 4, 3) := by decide +kernel
theorem dc_CP_brokenAnywhere_120 : decode prog_1_method_20_code 120 = .ok (.iconst 0, 1) := by decide +kernel
theorem dc_CP_brokenAnywhere_121 : decode prog_1_method_20_code 121 = .ok (.ireturn, 1) := by decide +kernel
theorem dc_CP_isWithinBoundsBefore_0 : decode prog_1_method_21_code 0 = .ok (.aload_n 0, 1) := by decide +kernel
theorem dc_CP_isWithinBoundsBefore_1 : decode prog_1_method_21_code 1 = .ok (.getfield 25, 3) := by decide +kernel
theorem dc_CP_isWithinBoundsBefore_4 : decode prog_1_method_21_code 4 = .ok (.aload_n 0, 1) := by decide +kernel
theorem dc_CP_isWithinBoundsBefore_5 : decode prog_1_method_21_code 5 = .ok (.getfield 34, 3) := by decide +kernel
theorem dc_CP_isWithinBoundsBefore_8 : decode prog_1_method_21_code 8 = .ok (.iload_n 1, 1) := by decide +kernel
theorem dc_CP_isWithinBoundsBefore_9 : decode prog_1_method_21_code 9 = .ok (.iaload, 1) := by decide +kernel
theorem dc_CP_isWithinBoundsBefore_10 : decode prog_1_method_21_code 10 = .ok (.aaload, 1) := by decide +kernel
theorem dc_CP_isWithinBoundsBefore_11 : decode prog_1_method_21_code 11 = .ok (.getfield 102, 3) := by decide +kernel
theorem dc_CP_isWithinBoundsBefore_14 : decode prog_1_method_21_code 14 = .ok (.astore_n 2, 1) := by decide +kernel
theorem dc_CP_isWithinBoundsBefore_15 : decode prog_1_method_21_code 15 = .ok (.iconst 0, 1) := by decide +kernel
theorem dc_CP_isWithinBoundsBefore_16 : decode prog_1_method_21_code 16 = .ok (.istore_n 3, 1) := by decide +kernel
theorem dc_CP_isWithinBoundsBefore_17 : decode prog_1_method_21_code 17 = .ok (.iload_n 3, 1) := by decide +kernel
theorem dc_CP_isWithinBoundsBefore_18 : decode prog_1_method_21_code 18 = .ok (.iload_n 1, 1) := by decide +kernel
theorem dc_CP_isWithinBoundsBefore_19 : decode prog_1_method_21_code 19 = .ok (.if_icmp .ge 29, 3) := by decide +kernel
theorem dc_CP_isWithinBoundsBefore_22 : decode prog_1_method_21_code 22 = .ok (.aload_n 0, 1) := by decide +kernel
theorem dc_CP_isWithinBoundsBefore_23 : decode prog_1_method_21_code 23 = .ok (.getfield 25, 3) := by decide +kernel
theorem dc_CP_isWithinBoundsBefore_26 : decode prog_1_method_21_code 26 = .ok (.aload_n 0, 1) := by decide +kernel
theorem dc_CP_isWithinBoundsBefore_27 : decode prog_1_method_21_code 27 = .ok (.getfield 34, 3) := by decide +kernel
theorem dc_CP_isWithinBoundsBefore_30 : decode prog_1_method_21_code 30 = .ok (.iload_n 3, 1) := by decide +kernel
theorem dc_CP_isWithinBoundsBefore_31 : decode prog_1_method_21_code 31 = .ok (.iaload, 1) := by decide +kernel
theorem dc_CP_isWithinBoundsBefore_32 : decode prog_1_method_21_code 32 = .ok (.aaload, 1) := by decide +kernel
theorem dc_CP_isWithinBoundsBefore_33 : decode prog_1_method_21_code 33 = .ok (.aload_n 2, 1) := by decide +kernel
theorem dc_CP_isWithinBoundsBefore_34 : decode prog_1_method_21_code 34 = .ok (.invokevirtual 134, 3) := by decide +kernel
theorem dc_CP_isWithinBoundsBefore_37 : decode prog_1_method_21_code 37 = .ok (.ifCond .ne 5, 3) := by decide +kernel
theorem dc_CP_isWithinBoundsBefore_40 : decode prog_1_method_21_code 40 = .ok (.iconst 0, 1) := by decide +kernel
theorem dc_CP_isWithinBoundsBefore_41 : decode prog_1_method_21_code 41 = .ok (.ireturn, 1) := by decide +kernel
theorem dc_CP_isWithinBoundsBefore_42 : decode prog_1_method_21_code 42 = .ok (.iinc 3 1, 3) := by decide +kernel
theorem dc_CP_isWithinBoundsBefore_45 : decode prog_1_method_21_code 45 = .ok (.goto (-28), 3) := by decide +kernel
theorem dc_CP_isWithinBoundsBefore_48 : decode prog_1_method_21_code 48 = .ok (.iconst 1, 1) := by decide +kernel
theorem dc_CP_isWithinBoundsBefore_49 : decode prog_1_method_21_code 49 = .ok (.ireturn, 1) := by decide +kernel
end
section
/-! what each instruction is -/
theorem dc_MD_init_0 : decode prog_9_method_1_code 0 = .ok (.aload_n 0, 1) := by decide +kernel
theorem dc_MD_init_1 : decode prog_9_method_1_code 1 = .ok (.invokespecial 1, 3) := by decide +kernel
theorem dc_MD_init_4 : decode prog_9_method_1_code 4 = .ok (.aload_n 0, 1) := by decide +kernel
theorem dc_MD_init_5 : decode prog_9_method_1_code 5 = .ok (.sipush 1440, 3) := by decide +kernel
theorem dc_MD_init_8 : decode prog_9_method_1_code 8 = .ok (.newarray .int, 2) := by decide +kernel
theorem dc_MD_init_10 : decode prog_9_method_1_code 10 = .ok (.putfield 7, 3) := by decide +kernel
theorem dc_MD_init_13 : decode prog_9_method_1_code 13 = .ok (.aload_n 0, 1) := by decide +kernel
theorem dc_MD_init_14 : decode prog_9_method_1_code 14 = .ok (.bipush 8, 2) := by decide +kernel
theorem dc_MD_init_16 : decode prog_9_method_1_code 16 = .ok (.newarray .int, 2) := by decide +kernel
theorem dc_MD_init_18 : decode prog_9_method_1_code 18 = .ok (.putfield 13, 3) := by decide +kernel
theorem dc_MD_init_21 : decode prog_9_method_1_code 21 = .ok (.aload_n 0, 1) := by decide +kernel
theorem dc_MD_init_22 : decode prog_9_method_1_code 22 = .ok (.bipush 6, 2) := by decide +kernel
theorem dc_MD_init_24 : decode prog_9_method_1_code 24 = .ok (.newarray .int, 2) := by decide +kernel
theorem dc_MD_init_26 : decode prog_9_method_1_code 26 = .ok (.putfield 16, 3) := by decide +kernel
theorem dc_MD_init_29 : decode prog_9_method_1_code 29 = .ok (.aload_n 0, 1) := by decide +kernel
theorem dc_MD_init_30 : decode prog_9_method_1_code 30 = .ok (.iconst 4, 1) := by decide +kernel
theorem dc_MD_init_31 : decode prog_9_method_1_code 31 = .ok (.newarray .int, 2) := by decide +kernel
theorem dc_MD_init_33 : decode prog_9_method_1_code 33 = .ok (.putfield 19, 3) := by decide +kernel
theorem dc_MD_init_36 : decode prog_9_method_1_code 36 = .ok (.return_, 1) := by decide +kernel
theorem dc_MD_feed_0 : decode prog_9_method_2_code 0 = .ok (.iload_n 2, 1) := by decide +kernel
theorem dc_MD_feed_1 : decode prog_9_method_2_code 1 = .ok (.iconst 1, 1) := by decide +kernel
theorem dc_MD_feed_2 : decode prog_9_method_2_code 2 = .ok (.if_icmp .lt 20, 3) := by decide +kernel
theorem dc_MD_feed_5 : decode prog_9_method_2_code 5 = .ok (.iload_n 2, 1) := by decide +kernel
theorem dc_MD_feed_6 : decode prog_9_method_2_code 6 = .ok (.iconst 4, 1) := by decide +kernel
theorem dc_MD_feed_7 : decode prog_9_method_2_code 7 = .ok (.if_icmp .gt 15, 3) := by decide +kernel
theorem dc_MD_feed_10 : decode prog_9_method_2_code 10 = .ok (.aload_n 0, 1) := by decide +kernel
theorem dc_MD_feed_11 : decode prog_9_method_2_code 11 = .ok (.getfield 22, 3) := by decide +kernel
theorem dc_MD_feed_14 : decode prog_9_method_2_code 14 = .ok (.iload_n 2, 1) := by decide +kernel
theorem dc_MD_feed_15 : decode prog_9_method_2_code 15 = .ok (.iadd, 1) := by decide +kernel
theorem dc_MD_feed_16 : decode prog_9_method_2_code 16 = .ok (.sipush 160, 3) := by decide +kernel
theorem dc_MD_feed_19 : decode prog_9_method_2_code 19 = .ok (.if_icmp .le 5, 3) := by decide +kernel
theorem dc_MD_feed_22 : decode prog_9_method_2_code 22 = .ok (.iconst 0, 1) := by decide +kernel
theorem dc_MD_feed_23 : decode prog_9_method_2_code 23 = .ok (.ireturn, 1) := by decide +kernel
theorem dc_MD_feed_24 : decode prog_9_method_2_code 24 = .ok (.iload_n 2, 1) := by decide +kernel
theorem dc_MD_feed_25 : decode prog_9_method_2_code 25 = .ok (.iconst 1, 1) := by decide +kernel
theorem dc_MD_feed_26 : decode prog_9_method_2_code 26 = .ok (.isub, 1) := by decide +kernel
theorem dc_MD_feed_27 : decode prog_9_method_2_code 27 = .ok (.istore_n 3, 1) := by decide +kernel
theorem dc_MD_feed_28 : decode prog_9_method_2_code 28 = .ok (.iload_n 3, 1) := by decide +kernel
theorem dc_MD_feed_29 : decode prog_9_method_2_code 29 = .ok (.ifCond .lt 42, 3) := by decide +kernel
theorem dc_MD_feed_32 : decode prog_9_method_2_code 32 = .ok (.aload_n 0, 1) := by decide +kernel
theorem dc_MD_feed_33 : decode prog_9_method_2_code 33 = .ok (.getfield 7, 3) := by decide +kernel
theorem dc_MD_feed_36 : decode prog_9_method_2_code 36 = .ok (.sipush 1280, 3) := by decide +kernel
theorem dc_MD_feed_39 : decode prog_9_method_2_code 39 = .ok (.aload_n 0, 1) := by decide +kernel
theorem dc_MD_feed_40 : decode prog_9_method_2_code 40 = .ok (.getfield 22, 3) := by decide +kernel
theorem dc_MD_feed_43 : decode prog_9_method_2_code 43 = .ok (.iadd, 1) := by decide +kernel
theorem dc_MD_feed_44 : decode prog_9_method_2_code 44 = .ok (.iload_n 1, 1) := by decide +kernel
theorem dc_MD_feed_45 : decode prog_9_method_2_code 45 = .ok (.bipush 8, 2) := by decide +kernel
theorem dc_MD_feed_47 : decode prog_9_method_2_code 47 = .ok (.iload_n 3, 1) := by decide +kernel
theorem dc_MD_feed_48 : decode prog_9_method_2_code 48 = .ok (.imul, 1) := by decide +kernel
theorem dc_MD_feed_49 : decode prog_9_method_2_code 49 = .ok (.ishr, 1) := by decide +kernel
theorem dc_MD_feed_50 : decode prog_9_method_2_code 50 = .ok (.sipush 255, 3) := by decide +kernel
theorem dc_MD_feed_53 : decode prog_9_method_2_code 53 = .ok (.iand, 1) := by decide +kernel
theorem dc_MD_feed_54 : decode prog_9_method_2_code 54 = .ok (.iastore, 1) := by decide +kernel
theorem dc_MD_feed_55 : decode prog_9_method_2_code 55 = .ok (.aload_n 0, 1) := by decide +kernel
theorem dc_MD_feed_56 : decode prog_9_method_2_code 56 = .ok (.aload_n 0, 1) := by decide +kernel
theorem dc_MD_feed_57 : decode prog_9_method_2_code 57 = .ok (.getfield 22, 3) := by decide +kernel
theorem dc_MD_feed_60 : decode prog_9_method_2_code 60 = .ok (.iconst 1, 1) := by decide +kernel
theorem dc_MD_feed_61 : decode prog_9_method_2_code 61 = .ok (.iadd, 1) := by decide +kernel
theorem dc_MD_feed_62 : decode prog_9_method_2_code 62 = .ok (.putfield 22, 3) := by decide +kernel
theorem dc_MD_feed_65 : decode prog_9_method_2_code 65 = .ok (.iinc 3 (-1), 3) := by decide +kernel
theorem dc_MD_feed_68 : decode prog_9_method_2_code 68 = .ok (.goto (-40), 3) := by decide +kernel
theorem dc_MD_feed_71 : decode prog_9_method_2_code 71 = .ok (.iconst 1, 1) := by decide +kernel
theorem dc_MD_feed_72 : decode prog_9_method_2_code 72 = .ok (.ireturn, 1) := by decide +kernel
theorem dc_MD_set_0 : decode prog_9_method_3_code 0 = .ok (.iload_n 1, 1) := by decide +kernel
theorem dc_MD_set_1 : decode prog_9_method_3_code 1 = .ok (.ifCond .lt 22, 3) := by decide +kernel
theorem dc_MD_set_4 : decode prog_9_method_3_code 4 = .ok (.iload_n 1, 1) := by decide +kernel
theorem dc_MD_set_5 : decode prog_9_method_3_code 5 = .ok (.aload_n 0, 1) := by decide +kernel
theorem dc_MD_set_6 : decode prog_9_method_3_code 6 = .ok (.getfield 22, 3) := by decide +kernel
theorem dc_MD_set_9 : decode prog_9_method_3_code 9 = .ok (.if_icmp .ge 14, 3) := by decide +kernel
theorem dc_MD_set_12 : decode prog_9_method_3_code 12 = .ok (.iload_n 2, 1) := by decide +kernel
theorem dc_MD_set_13 : decode prog_9_method_3_code 13 = .ok (.ifCond .lt 10, 3) := by decide +kernel
theorem dc_MD_set_16 : decode prog_9_method_3_code 16 = .ok (.iload_n 2, 1) := by decide +kernel
theorem dc_MD_set_17 : decode prog_9_method_3_code 17 = .ok (.sipush 255, 3) := by decide +kernel
theorem dc_MD_set_20 : decode prog_9_method_3_code 20 = .ok (.if_icmp .le 5, 3) := by decide +kernel
theorem dc_MD_set_23 : decode prog_9_method_3_code 23 = .ok (.iconst 0, 1) := by decide +kernel
theorem dc_MD_set_24 : decode prog_9_method_3_code 24 = .ok (.ireturn, 1) := by decide +kernel
theorem dc_MD_set_25 : decode prog_9_method_3_code 25 = .ok (.aload_n 0, 1) := by decide +kernel
theorem dc_MD_set_26 : decode prog_9_method_3_code 26 = .ok (.getfield 7, 3) := by decide +kernel
theorem dc_MD_set_29 : decode prog_9_method_3_code 29 = .ok (.sipush 1280, 3) := by decide +kernel
theorem dc_MD_set_32 : decode prog_9_method_3_code 32 = .ok (.iload_n 1, 1) := by decide +kernel
theorem dc_MD_set_33 : decode prog_9_method_3_code 33 = .ok (.iadd, 1) := by decide +kernel
theorem dc_MD_set_34 : decode prog_9_method_3_code 34 = .ok (.iload_n 2, 1) := by decide +kernel
theorem dc_MD_set_35 : decode prog_9_method_3_code 35 = .ok (.iastore, 1) := by decide +kernel
theorem dc_MD_set_36 : decode prog_9_method_3_code 36 = .ok (.iconst 1, 1) := by decide +kernel
theorem dc_MD_set_37 : decode prog_9_method_3_code 37 = .ok (.ireturn, 1) := by decide +kernel
theorem dc_MD_trim_0 : decode prog_9_method_4_code 0 = .ok (.iload_n 1, 1) := by decide +kernel
theorem dc_MD_trim_1 : decode prog_9_method_4_code 1 = .ok (.ifCond .lt 11, 3) := by decide +kernel
theorem dc_MD_trim_4 : decode prog_9_method_4_code 4 = .ok (.iload_n 1, 1) := by decide +kernel
theorem dc_MD_trim_5 : decode prog_9_method_4_code 5 = .ok (.aload_n 0, 1) := by decide +kernel
theorem dc_MD_trim_6 : decode prog_9_method_4_code 6 = .ok (.getfield 22, 3) := by decide +kernel
theorem dc_MD_trim_9 : decode prog_9_method_4_code 9 = .ok (.if_icmp .le 5, 3) := by decide +kernel
theorem dc_MD_trim_12 : decode prog_9_method_4_code 12 = .ok (.iconst 0, 1) := by decide +kernel
theorem dc_MD_trim_13 : decode prog_9_method_4_code 13 = .ok (.ireturn, 1) := by decide +kernel
theorem dc_MD_trim_14 : decode prog_9_method_4_code 14 = .ok (.aload_n 0, 1) := by decide +kernel
theorem dc_MD_trim_15 : decode prog_9_method_4_code 15 = .ok (.iload_n 1, 1) := by decide +kernel
theorem dc_MD_trim_16 : decode prog_9_method_4_code 16 = .ok (.putfield 22, 3) := by decide +kernel
theorem dc_MD_trim_19 : decode prog_9_method_4_code 19 = .ok (.iconst 1, 1) := by decide +kernel
theorem dc_MD_trim_20 : decode prog_9_method_4_code 20 = .ok (.ireturn, 1) := by decide +kernel
theorem dc_MD_length_0 : decode prog_9_method_5_code 0 = .ok (.aload_n 0, 1) := by decide +kernel
theorem dc_MD_length_1 : decode prog_9_method_5_code 1 = .ok (.getfield 22, 3) := by decide +kernel
theorem dc_MD_length_4 : decode prog_9_method_5_code 4 = .ok (.ireturn, 1) := by decide +kernel
theorem dc_MD_byteAt_0 : decode prog_9_method_6_code 0 = .ok (.iload_n 1, 1) := by decide +kernel
theorem dc_MD_byteAt_1 : decode prog_9_method_6_code 1 = .ok (.ifCond .lt 11, 3) := by decide +kernel
theorem dc_MD_byteAt_4 : decode prog_9_method_6_code 4 = .ok (.iload_n 1, 1) := by decide +kernel
theorem dc_MD_byteAt_5 : decode prog_9_method_6_code 5 = .ok (.aload_n 0, 1) := by decide +kernel
theorem dc_MD_byteAt_6 : decode prog_9_method_6_code 6 = .ok (.getfield 22, 3) := by decide +kernel
theorem dc_MD_byteAt_9 : decode prog_9_method_6_code 9 = .ok (.if_icmp .lt 7, 3) := by decide +kernel
theorem dc_MD_byteAt_12 : decode prog_9_method_6_code 12 = .ok (.iconst (-1), 1) := by decide +kernel
theorem dc_MD_byteAt_13 : decode prog_9_method_6_code 13 = .ok (.goto 13, 3) := by decide +kernel
theorem dc_MD_byteAt_16 : decode prog_9_method_6_code 16 = .ok (.aload_n 0, 1) := by decide +kernel
theorem dc_MD_byteAt_17 : decode prog_9_method_6_code 17 = .ok (.getfield 7, 3) := by decide +kernel
theorem dc_MD_byteAt_20 : decode prog_9_method_6_code 20 = .ok (.sipush 1280, 3) := by decide +kernel
theorem dc_MD_byteAt_23 : decode prog_9_method_6_code 23 = .ok (.iload_n 1, 1) := by decide +kernel
theorem dc_MD_byteAt_24 : decode prog_9_method_6_code 24 = .ok (.iadd, 1) := by decide +kernel
theorem dc_MD_byteAt_25 : decode prog_9_method_6_code 25 = .ok (.iaload, 1) := by decide +kernel
theorem dc_MD_byteAt_26 : decode prog_9_method_6_code 26 = .ok (.ireturn, 1) := by decide +kernel
theorem dc_MD_hashed_0 : decode prog_9_method_7_code 0 = .ok (.lconst 0, 1) := by decide +kernel
theorem dc_MD_hashed_1 : decode prog_9_method_7_code 1 = .ok (.lstore_n 3, 1) := by decide +kernel
theorem dc_MD_hashed_2 : decode prog_9_method_7_code 2 = .ok (.iload_n 1, 1) := by decide +kernel
theorem dc_MD_hashed_3 : decode prog_9_method_7_code 3 = .ok (.istore 5, 2) := by decide +kernel
theorem dc_MD_hashed_5 : decode prog_9_method_7_code 5 = .ok (.iload 5, 2) := by decide +kernel
theorem dc_MD_hashed_7 : decode prog_9_method_7_code 7 = .ok (.iload_n 2, 1) := by decide +kernel
theorem dc_MD_hashed_8 : decode prog_9_method_7_code 8 = .ok (.if_icmp .ge 30, 3) := by decide +kernel
theorem dc_MD_hashed_11 : decode prog_9_method_7_code 11 = .ok (.ldc2_w 26, 3) := by decide +kernel
theorem dc_MD_hashed_14 : decode prog_9_method_7_code 14 = .ok (.lload_n 3, 1) := by decide +kernel
theorem dc_MD_hashed_15 : decode prog_9_method_7_code 15 = .ok (.lmul, 1) := by decide +kernel
theorem dc_MD_hashed_16 : decode prog_9_method_7_code 16 = .ok (.aload_n 0, 1) := by decide +kernel
theorem dc_MD_hashed_17 : decode prog_9_method_7_code 17 = .ok (.getfield 7, 3) := by decide +kernel
theorem dc_MD_hashed_20 : decode prog_9_method_7_code 20 = .ok (.iload 5, 2) := by decide +kernel
theorem dc_MD_hashed_22 : decode prog_9_method_7_code 22 = .ok (.iaload, 1) := by decide +kernel
theorem dc_MD_hashed_23 : decode prog_9_method_7_code 23 = .ok (.i2l, 1) := by decide +kernel
theorem dc_MD_hashed_24 : decode prog_9_method_7_code 24 = .ok (.ladd, 1) := by decide +kernel
theorem dc_MD_hashed_25 : decode prog_9_method_7_code 25 = .ok (.lconst 1, 1) := by decide +kernel
theorem dc_MD_hashed_26 : decode prog_9_method_7_code 26 = .ok (.ladd, 1) := by decide +kernel
theorem dc_MD_hashed_27 : decode prog_9_method_7_code 27 = .ok (.ldc2_w 28, 3) := by decide +kernel
theorem dc_MD_hashed_30 : decode prog_9_method_7_code 30 = .ok (.lrem, 1) := by decide +kernel
theorem dc_MD_hashed_31 : decode prog_9_method_7_code 31 = .ok (.lstore_n 3, 1) := by decide +kernel
theorem dc_MD_hashed_32 : decode prog_9_method_7_code 32 = .ok (.iinc 5 1, 3) := by decide +kernel
theorem dc_MD_hashed_35 : decode prog_9_method_7_code 35 = .ok (.goto (-30), 3) := by decide +kernel
theorem dc_MD_hashed_38 : decode prog_9_method_7_code 38 = .ok (.lload_n 3, 1) := by decide +kernel
theorem dc_MD_hashed_39 : decode prog_9_method_7_code 39 = .ok (.l2i, 1) := by decide +kernel
theorem dc_MD_hashed_40 : decode prog_9_method_7_code 40 = .ok (.ireturn, 1) := by decide +kernel
theorem dc_MD_hash_0 : decode prog_9_method_8_code 0 = .ok (.iload_n 1, 1) := by decide +kernel
theorem dc_MD_hash_1 : decode prog_9_method_8_code 1 = .ok (.ifCond .lt 16, 3) := by decide +kernel
theorem dc_MD_hash_4 : decode prog_9_method_8_code 4 = .ok (.iload_n 1, 1) := by decide +kernel
theorem dc_MD_hash_5 : decode prog_9_method_8_code 5 = .ok (.iload_n 2, 1) := by decide +kernel
theorem dc_MD_hash_6 : decode prog_9_method_8_code 6 = .ok (.if_icmp .gt 11, 3) := by decide +kernel
theorem dc_MD_hash_9 : decode prog_9_method_8_code 9 = .ok (.iload_n 2, 1) := by decide +kernel
theorem dc_MD_hash_10 : decode prog_9_method_8_code 10 = .ok (.aload_n 0, 1) := by decide +kernel
theorem dc_MD_hash_11 : decode prog_9_method_8_code 11 = .ok (.getfield 22, 3) := by decide +kernel
theorem dc_MD_hash_14 : decode prog_9_method_8_code 14 = .ok (.if_icmp .le 7, 3) := by decide +kernel
theorem dc_MD_hash_17 : decode prog_9_method_8_code 17 = .ok (.iconst (-1), 1) := by decide +kernel
theorem dc_MD_hash_18 : decode prog_9_method_8_code 18 = .ok (.goto 17, 3) := by decide +kernel
theorem dc_MD_hash_21 : decode prog_9_method_8_code 21 = .ok (.aload_n 0, 1) := by decide +kernel
theorem dc_MD_hash_22 : decode prog_9_method_8_code 22 = .ok (.sipush 1280, 3) := by decide +kernel
theorem dc_MD_hash_25 : decode prog_9_method_8_code 25 = .ok (.iload_n 1, 1) := by decide +kernel
theorem dc_MD_hash_26 : decode prog_9_method_8_code 26 = .ok (.iadd, 1) := by decide +kernel
theorem dc_MD_hash_27 : decode prog_9_method_8_code 27 = .ok (.sipush 1280, 3) := by decide +kernel
theorem dc_MD_hash_30 : decode prog_9_method_8_code 30 = .ok (.iload_n 2, 1) := by decide +kernel
theorem dc_MD_hash_31 : decode prog_9_method_8_code 31 = .ok (.iadd, 1) := by decide +kernel
theorem dc_MD_hash_32 : decode prog_9_method_8_code 32 = .ok (.invokevirtual 30, 3) := by decide +kernel
theorem dc_MD_hash_35 : decode prog_9_method_8_code 35 = .ok (.ireturn, 1) := by decide +kernel
theorem dc_MD_tagged_0 : decode prog_9_method_9_code 0 = .ok (.aload_n 0, 1) := by decide +kernel
theorem dc_MD_tagged_1 : decode prog_9_method_9_code 1 = .ok (.getfield 34, 3) := by decide +kernel
theorem dc_MD_tagged_4 : decode prog_9_method_9_code 4 = .ok (.ifCond .ne 28, 3) := by decide +kernel
theorem dc_MD_tagged_7 : decode prog_9_method_9_code 7 = .ok (.aload_n 0, 1) := by decide +kernel
theorem dc_MD_tagged_8 : decode prog_9_method_9_code 8 = .ok (.getfield 38, 3) := by decide +kernel
theorem dc_MD_tagged_11 : decode prog_9_method_9_code 11 = .ok (.iload_n 2, 1) := by decide +kernel
theorem dc_MD_tagged_12 : decode prog_9_method_9_code 12 = .ok (.if_icmp .ge 20, 3) := by decide +kernel
theorem dc_MD_tagged_15 : decode prog_9_method_9_code 15 = .ok (.aload_n 0, 1) := by decide +kernel
theorem dc_MD_tagged_16 : decode prog_9_method_9_code 16 = .ok (.getfield 7, 3) := by decide +kernel
theorem dc_MD_tagged_19 : decode prog_9_method_9_code 19 = .ok (.aload_n 0, 1) := by decide +kernel
theorem dc_MD_tagged_20 : decode prog_9_method_9_code 20 = .ok (.getfield 38, 3) := by decide +kernel
theorem dc_MD_tagged_23 : decode prog_9_method_9_code 23 = .ok (.iaload, 1) := by decide +kernel
theorem dc_MD_tagged_24 : decode prog_9_method_9_code 24 = .ok (.iload_n 1, 1) := by decide +kernel
theorem dc_MD_tagged_25 : decode prog_9_method_9_code 25 = .ok (.if_icmp .ne 7, 3) := by decide +kernel
theorem dc_MD_tagged_28 : decode prog_9_method_9_code 28 = .ok (.iconst 1, 1) := by decide +kernel
theorem dc_MD_tagged_29 : decode prog_9_method_9_code 29 = .ok (.goto 4, 3) := by decide +kernel
theorem dc_MD_tagged_32 : decode prog_9_method_9_code 32 = .ok (.iconst 0, 1) := by decide +kernel
theorem dc_MD_tagged_33 : decode prog_9_method_9_code 33 = .ok (.ireturn, 1) := by decide +kernel
theorem dc_MD_enter_0 : decode prog_9_method_10_code 0 = .ok (.aload_n 0, 1) := by decide +kernel
theorem dc_MD_enter_1 : decode prog_9_method_10_code 1 = .ok (.aload_n 0, 1) := by decide +kernel
theorem dc_MD_enter_2 : decode prog_9_method_10_code 2 = .ok (.iload_n 1, 1) := by decide +kernel
theorem dc_MD_enter_3 : decode prog_9_method_10_code 3 = .ok (.iload_n 2, 1) := by decide +kernel
theorem dc_MD_enter_4 : decode prog_9_method_10_code 4 = .ok (.invokevirtual 41, 3) := by decide +kernel
theorem dc_MD_enter_7 : decode prog_9_method_10_code 7 = .ok (.ifCond .eq 13, 3) := by decide +kernel
theorem dc_MD_enter_10 : decode prog_9_method_10_code 10 = .ok (.aload_n 0, 1) := by decide +kernel
theorem dc_MD_enter_11 : decode prog_9_method_10_code 11 = .ok (.getfield 38, 3) := by decide +kernel
theorem dc_MD_enter_14 : decode prog_9_method_10_code 14 = .ok (.iconst 2, 1) := by decide +kernel
theorem dc_MD_enter_15 : decode prog_9_method_10_code 15 = .ok (.iadd, 1) := by decide +kernel
theorem dc_MD_enter_16 : decode prog_9_method_10_code 16 = .ok (.iload_n 2, 1) := by decide +kernel
theorem dc_MD_enter_17 : decode prog_9_method_10_code 17 = .ok (.if_icmp .le 7, 3) := by decide +kernel
theorem dc_MD_enter_20 : decode prog_9_method_10_code 20 = .ok (.iconst 1, 1) := by decide +kernel
theorem dc_MD_enter_21 : decode prog_9_method_10_code 21 = .ok (.goto 4, 3) := by decide +kernel
theorem dc_MD_enter_24 : decode prog_9_method_10_code 24 = .ok (.iconst 0, 1) := by decide +kernel
theorem dc_MD_enter_25 : decode prog_9_method_10_code 25 = .ok (.putfield 34, 3) := by decide +kernel
theorem dc_MD_enter_28 : decode prog_9_method_10_code 28 = .ok (.aload_n 0, 1) := by decide +kernel
theorem dc_MD_enter_29 : decode prog_9_method_10_code 29 = .ok (.getfield 34, 3) := by decide +kernel
theorem dc_MD_enter_32 : decode prog_9_method_10_code 32 = .ok (.ifCond .eq 5, 3) := by decide +kernel
theorem dc_MD_enter_35 : decode prog_9_method_10_code 35 = .ok (.iload_n 2, 1) := by decide +kernel
theorem dc_MD_enter_36 : decode prog_9_method_10_code 36 = .ok (.ireturn, 1) := by decide +kernel
theorem dc_MD_enter_37 : decode prog_9_method_10_code 37 = .ok (.aload_n 0, 1) := by decide +kernel
theorem dc_MD_enter_38 : decode prog_9_method_10_code 38 = .ok (.getfield 7, 3) := by decide +kernel
theorem dc_MD_enter_41 : decode prog_9_method_10_code 41 = .ok (.aload_n 0, 1) := by decide +kernel
theorem dc_MD_enter_42 : decode prog_9_method_10_code 42 = .ok (.getfield 38, 3) := by decide +kernel
theorem dc_MD_enter_45 : decode prog_9_method_10_code 45 = .ok (.iconst 1, 1) := by decide +kernel
theorem dc_MD_enter_46 : decode prog_9_method_10_code 46 = .ok (.iadd, 1) := by decide +kernel
theorem dc_MD_enter_47 : decode prog_9_method_10_code 47 = .ok (.iaload, 1) := by decide +kernel
theorem dc_MD_enter_48 : decode prog_9_method_10_code 48 = .ok (.istore_n 3, 1) := by decide +kernel
theorem dc_MD_enter_49 : decode prog_9_method_10_code 49 = .ok (.aload_n 0, 1) := by decide +kernel
theorem dc_MD_enter_50 : decode prog_9_method_10_code 50 = .ok (.aload_n 0, 1) := by decide +kernel
theorem dc_MD_enter_51 : decode prog_9_method_10_code 51 = .ok (.getfield 38, 3) := by decide +kernel
theorem dc_MD_enter_54 : decode prog_9_method_10_code 54 = .ok (.iconst 2, 1) := by decide +kernel
theorem dc_MD_enter_55 : decode prog_9_method_10_code 55 = .ok (.iadd, 1) := by decide +kernel
theorem dc_MD_enter_56 : decode prog_9_method_10_code 56 = .ok (.putfield 38, 3) := by decide +kernel
theorem dc_MD_enter_59 : decode prog_9_method_10_code 59 = .ok (.iload_n 3, 1) := by decide +kernel
theorem dc_MD_enter_60 : decode prog_9_method_10_code 60 = .ok (.bipush 127, 2) := by decide +kernel
theorem dc_MD_enter_62 : decode prog_9_method_10_code 62 = .ok (.if_icmp .le 73, 3) := by decide +kernel
theorem dc_MD_enter_65 : decode prog_9_method_10_code 65 = .ok (.aload_n 0, 1) := by decide +kernel
theorem dc_MD_enter_66 : decode prog_9_method_10_code 66 = .ok (.iload_n 3, 1) := by decide +kernel
theorem dc_MD_enter_67 : decode prog_9_method_10_code 67 = .ok (.sipush 129, 3) := by decide +kernel
theorem dc_MD_enter_70 : decode prog_9_method_10_code 70 = .ok (.if_icmp .ne 26, 3) := by decide +kernel
theorem dc_MD_enter_73 : decode prog_9_method_10_code 73 = .ok (.aload_n 0, 1) := by decide +kernel
theorem dc_MD_enter_74 : decode prog_9_method_10_code 74 = .ok (.getfield 38, 3) := by decide +kernel
theorem dc_MD_enter_77 : decode prog_9_method_10_code 77 = .ok (.iload_n 2, 1) := by decide +kernel
theorem dc_MD_enter_78 : decode prog_9_method_10_code 78 = .ok (.if_icmp .ge 18, 3) := by decide +kernel
theorem dc_MD_enter_81 : decode prog_9_method_10_code 81 = .ok (.aload_n 0, 1) := by decide +kernel
theorem dc_MD_enter_82 : decode prog_9_method_10_code 82 = .ok (.getfield 7, 3) := by decide +kernel
theorem dc_MD_enter_85 : decode prog_9_method_10_code 85 = .ok (.aload_n 0, 1) := by decide +kernel
theorem dc_MD_enter_86 : decode prog_9_method_10_code 86 = .ok (.getfield 38, 3) := by decide +kernel
theorem dc_MD_enter_89 : decode prog_9_method_10_code 89 = .ok (.iaload, 1) := by decide +kernel
theorem dc_MD_enter_90 : decode prog_9_method_10_code 90 = .ok (.sipush 128, 3) := by decide +kernel
theorem dc_MD_enter_93 : decode prog_9_method_10_code 93 = .ok (.if_icmp .ge 7, 3) := by decide +kernel
theorem dc_MD_enter_96 : decode prog_9_method_10_code 96 = .ok (.iconst 1, 1) := by decide +kernel
theorem dc_MD_enter_97 : decode prog_9_method_10_code 97 = .ok (.goto 4, 3) := by decide +kernel
theorem dc_MD_enter_100 : decode prog_9_method_10_code 100 = .ok (.iconst 0, 1) := by decide +kernel
theorem dc_MD_enter_101 : decode prog_9_method_10_code 101 = .ok (.putfield 34, 3) := by decide +kernel
theorem dc_MD_enter_104 : decode prog_9_method_10_code 104 = .ok (.aload_n 0, 1) := by decide +kernel
theorem dc_MD_enter_105 : decode prog_9_method_10_code 105 = .ok (.getfield 34, 3) := by decide +kernel
theorem dc_MD_enter_108 : decode prog_9_method_10_code 108 = .ok (.ifCond .eq 7, 3) := by decide +kernel
theorem dc_MD_enter_111 : decode prog_9_method_10_code 111 = .ok (.iconst 0, 1) := by decide +kernel
theorem dc_MD_enter_112 : decode prog_9_method_10_code 112 = .ok (.goto 12, 3) := by decide +kernel
theorem dc_MD_enter_115 : decode prog_9_method_10_code 115 = .ok (.aload_n 0, 1) := by decide +kernel
theorem dc_MD_enter_116 : decode prog_9_method_10_code 116 = .ok (.getfield 7, 3) := by decide +kernel
theorem dc_MD_enter_119 : decode prog_9_method_10_code 119 = .ok (.aload_n 0, 1) := by decide +kernel
theorem dc_MD_enter_120 : decode prog_9_method_10_code 120 = .ok (.getfield 38, 3) := by decide +kernel
theorem dc_MD_enter_123 : decode prog_9_method_10_code 123 = .ok (.iaload, 1) := by decide +kernel
theorem dc_MD_enter_124 : decode prog_9_method_10_code 124 = .ok (.istore_n 3, 1) := by decide +kernel
theorem dc_MD_enter_125 : decode prog_9_method_10_code 125 = .ok (.aload_n 0, 1) := by decide +kernel
theorem dc_MD_enter_126 : decode prog_9_method_10_code 126 = .ok (.aload_n 0, 1) := by decide +kernel
theorem dc_MD_enter_127 : decode prog_9_method_10_code 127 = .ok (.getfield 38, 3) := by decide +kernel
theorem dc_MD_enter_130 : decode prog_9_method_10_code 130 = .ok (.iconst 1, 1) := by decide +kernel
theorem dc_MD_enter_131 : decode prog_9_method_10_code 131 = .ok (.iadd, 1) := by decide +kernel
theorem dc_MD_enter_132 : decode prog_9_method_10_code 132 = .ok (.putfield 38, 3) := by decide +kernel
theorem dc_MD_enter_135 : decode prog_9_method_10_code 135 = .ok (.aload_n 0, 1) := by decide +kernel
theorem dc_MD_enter_136 : decode prog_9_method_10_code 136 = .ok (.aload_n 0, 1) := by decide +kernel
theorem dc_MD_enter_137 : decode prog_9_method_10_code 137 = .ok (.getfield 34, 3) := by decide +kernel
theorem dc_MD_enter_140 : decode prog_9_method_10_code 140 = .ok (.ifCond .ne 13, 3) := by decide +kernel
theorem dc_MD_enter_143 : decode prog_9_method_10_code 143 = .ok (.iload_n 3, 1) := by decide +kernel
theorem dc_MD_enter_144 : decode prog_9_method_10_code 144 = .ok (.iload_n 2, 1) := by decide +kernel
theorem dc_MD_enter_145 : decode prog_9_method_10_code 145 = .ok (.aload_n 0, 1) := by decide +kernel
theorem dc_MD_enter_146 : decode prog_9_method_10_code 146 = .ok (.getfield 38, 3) := by decide +kernel
theorem dc_MD_enter_149 : decode prog_9_method_10_code 149 = .ok (.isub, 1) := by decide +kernel
theorem dc_MD_enter_150 : decode prog_9_method_10_code 150 = .ok (.if_icmp .le 7, 3) := by decide +kernel
theorem dc_MD_enter_153 : decode prog_9_method_10_code 153 = .ok (.iconst 1, 1) := by decide +kernel
theorem dc_MD_enter_154 : decode prog_9_method_10_code 154 = .ok (.goto 4, 3) := by decide +kernel
theorem dc_MD_enter_157 : decode prog_9_method_10_code 157 = .ok (.iconst 0, 1) := by decide +kernel
theorem dc_MD_enter_158 : decode prog_9_method_10_code 158 = .ok (.putfield 34, 3) := by decide +kernel
theorem dc_MD_enter_161 : decode prog_9_method_10_code 161 = .ok (.aload_n 0, 1) := by decide +kernel
theorem dc_MD_enter_162 : decode prog_9_method_10_code 162 = .ok (.getfield 34, 3) := by decide +kernel
theorem dc_MD_enter_165 : decode prog_9_method_10_code 165 = .ok (.ifCond .eq 7, 3) := by decide +kernel
theorem dc_MD_enter_168 : decode prog_9_method_10_code 168 = .ok (.iload_n 2, 1) := by decide +kernel
theorem dc_MD_enter_169 : decode prog_9_method_10_code 169 = .ok (.goto 9, 3) := by decide +kernel
theorem dc_MD_enter_172 : decode prog_9_method_10_code 172 = .ok (.aload_n 0, 1) := by decide +kernel
theorem dc_MD_enter_173 : decode prog_9_method_10_code 173 = .ok (.getfield 38, 3) := by decide +kernel
theorem dc_MD_enter_176 : decode prog_9_method_10_code 176 = .ok (.iload_n 3, 1) := by decide +kernel
theorem dc_MD_enter_177 : decode prog_9_method_10_code 177 = .ok (.iadd, 1) := by decide +kernel
theorem dc_MD_enter_178 : decode prog_9_method_10_code 178 = .ok (.ireturn, 1) := by decide +kernel
theorem dc_MD_leave_0 : decode prog_9_method_11_code 0 = .ok (.aload_n 0, 1) := by decide +kernel
theorem dc_MD_leave_1 : decode prog_9_method_11_code 1 = .ok (.aload_n 0, 1) := by decide +kernel
theorem dc_MD_leave_2 : decode prog_9_method_11_code 2 = .ok (.getfield 34, 3) := by decide +kernel
theorem dc_MD_leave_5 : decode prog_9_method_11_code 5 = .ok (.ifCond .ne 11, 3) := by decide +kernel
theorem dc_MD_leave_8 : decode prog_9_method_11_code 8 = .ok (.aload_n 0, 1) := by decide +kernel
theorem dc_MD_leave_9 : decode prog_9_method_11_code 9 = .ok (.getfield 38, 3) := by decide +kernel
theorem dc_MD_leave_12 : decode prog_9_method_11_code 12 = .ok (.iload_n 1, 1) := by decide +kernel
theorem dc_MD_leave_13 : decode prog_9_method_11_code 13 = .ok (.if_icmp .eq 7, 3) := by decide +kernel
theorem dc_MD_leave_16 : decode prog_9_method_11_code 16 = .ok (.iconst 1, 1) := by decide +kernel
theorem dc_MD_leave_17 : decode prog_9_method_11_code 17 = .ok (.goto 4, 3) := by decide +kernel
theorem dc_MD_leave_20 : decode prog_9_method_11_code 20 = .ok (.iconst 0, 1) := by decide +kernel
theorem dc_MD_leave_21 : decode prog_9_method_11_code 21 = .ok (.putfield 34, 3) := by decide +kernel
theorem dc_MD_leave_24 : decode prog_9_method_11_code 24 = .ok (.return_, 1) := by decide +kernel
theorem dc_MD_integer_0 : decode prog_9_method_12_code 0 = .ok (.aload_n 0, 1) := by decide +kernel
theorem dc_MD_integer_1 : decode prog_9_method_12_code 1 = .ok (.iconst 2, 1) := by decide +kernel
theorem dc_MD_integer_2 : decode prog_9_method_12_code 2 = .ok (.iload_n 1, 1) := by decide +kernel
theorem dc_MD_integer_3 : decode prog_9_method_12_code 3 = .ok (.invokevirtual 45, 3) := by decide +kernel
theorem dc_MD_integer_6 : decode prog_9_method_12_code 6 = .ok (.istore_n 2, 1) := by decide +kernel
theorem dc_MD_integer_7 : decode prog_9_method_12_code 7 = .ok (.iload_n 2, 1) := by decide +kernel
theorem dc_MD_integer_8 : decode prog_9_method_12_code 8 = .ok (.aload_n 0, 1) := by decide +kernel
theorem dc_MD_integer_9 : decode prog_9_method_12_code 9 = .ok (.getfield 38, 3) := by decide +kernel
theorem dc_MD_integer_12 : decode prog_9_method_12_code 12 = .ok (.isub, 1) := by decide +kernel
theorem dc_MD_integer_13 : decode prog_9_method_12_code 13 = .ok (.istore_n 3, 1) := by decide +kernel
theorem dc_MD_integer_14 : decode prog_9_method_12_code 14 = .ok (.aload_n 0, 1) := by decide +kernel
theorem dc_MD_integer_15 : decode prog_9_method_12_code 15 = .ok (.getfield 34, 3) := by decide +kernel
theorem dc_MD_integer_18 : decode prog_9_method_12_code 18 = .ok (.ifCond .ne 61, 3) := by decide +kernel
theorem dc_MD_integer_21 : decode prog_9_method_12_code 21 = .ok (.iload_n 3, 1) := by decide +kernel
theorem dc_MD_integer_22 : decode prog_9_method_12_code 22 = .ok (.iconst 1, 1) := by decide +kernel
theorem dc_MD_integer_23 : decode prog_9_method_12_code 23 = .ok (.if_icmp .lt 56, 3) := by decide +kernel
theorem dc_MD_integer_26 : decode prog_9_method_12_code 26 = .ok (.iload_n 3, 1) := by decide +kernel
theorem dc_MD_integer_27 : decode prog_9_method_12_code 27 = .ok (.iconst 4, 1) := by decide +kernel
theorem dc_MD_integer_28 : decode prog_9_method_12_code 28 = .ok (.if_icmp .gt 51, 3) := by decide +kernel
theorem dc_MD_integer_31 : decode prog_9_method_12_code 31 = .ok (.aload_n 0, 1) := by decide +kernel
theorem dc_MD_integer_32 : decode prog_9_method_12_code 32 = .ok (.getfield 7, 3) := by decide +kernel
theorem dc_MD_integer_35 : decode prog_9_method_12_code 35 = .ok (.aload_n 0, 1) := by decide +kernel
theorem dc_MD_integer_36 : decode prog_9_method_12_code 36 = .ok (.getfield 38, 3) := by decide +kernel
theorem dc_MD_integer_39 : decode prog_9_method_12_code 39 = .ok (.iaload, 1) := by decide +kernel
theorem dc_MD_integer_40 : decode prog_9_method_12_code 40 = .ok (.bipush 127, 2) := by decide +kernel
theorem dc_MD_integer_42 : decode prog_9_method_12_code 42 = .ok (.if_icmp .gt 37, 3) := by decide +kernel
theorem dc_MD_integer_45 : decode prog_9_method_12_code 45 = .ok (.iload_n 3, 1) := by decide +kernel
theorem dc_MD_integer_46 : decode prog_9_method_12_code 46 = .ok (.iconst 1, 1) := by decide +kernel
theorem dc_MD_integer_47 : decode prog_9_method_12_code 47 = .ok (.if_icmp .le 39, 3) := by decide +kernel
theorem dc_MD_integer_50 : decode prog_9_method_12_code 50 = .ok (.aload_n 0, 1) := by decide +kernel
theorem dc_MD_integer_51 : decode prog_9_method_12_code 51 = .ok (.getfield 7, 3) := by decide +kernel
theorem dc_MD_integer_54 : decode prog_9_method_12_code 54 = .ok (.aload_n 0, 1) := by decide +kernel
theorem dc_MD_integer_55 : decode prog_9_method_12_code 55 = .ok (.getfield 38, 3) := by decide +kernel
theorem dc_MD_integer_58 : decode prog_9_method_12_code 58 = .ok (.iaload, 1) := by decide +kernel
theorem dc_MD_integer_59 : decode prog_9_method_12_code 59 = .ok (.ifCond .ne 27, 3) := by decide +kernel
theorem dc_MD_integer_62 : decode prog_9_method_12_code 62 = .ok (.aload_n 0, 1) := by decide +kernel
theorem dc_MD_integer_63 : decode prog_9_method_12_code 63 = .ok (.getfield 7, 3) := by decide +kernel
theorem dc_MD_integer_66 : decode prog_9_method_12_code 66 = .ok (.aload_n 0, 1) := by decide +kernel
theorem dc_MD_integer_67 : decode prog_9_method_12_code 67 = .ok (.getfield 38, 3) := by decide +kernel
theorem dc_MD_integer_70 : decode prog_9_method_12_code 70 = .ok (.iconst 1, 1) := by decide +kernel
theorem dc_MD_integer_71 : decode prog_9_method_12_code 71 = .ok (.iadd, 1) := by decide +kernel
theorem dc_MD_integer_72 : decode prog_9_method_12_code 72 = .ok (.iaload, 1) := by decide +kernel
theorem dc_MD_integer_73 : decode prog_9_method_12_code 73 = .ok (.sipush 128, 3) := by decide +kernel
theorem dc_MD_integer_76 : decode prog_9_method_12_code 76 = .ok (.if_icmp .ge 10, 3) := by decide +kernel
theorem dc_MD_integer_79 : decode prog_9_method_12_code 79 = .ok (.aload_n 0, 1) := by decide +kernel
theorem dc_MD_integer_80 : decode prog_9_method_12_code 80 = .ok (.iconst 1, 1) := by decide +kernel
theorem dc_MD_integer_81 : decode prog_9_method_12_code 81 = .ok (.putfield 34, 3) := by decide +kernel
theorem dc_MD_integer_84 : decode prog_9_method_12_code 84 = .ok (.iconst 0, 1) := by decide +kernel
theorem dc_MD_integer_85 : decode prog_9_method_12_code 85 = .ok (.ireturn, 1) := by decide +kernel
theorem dc_MD_integer_86 : decode prog_9_method_12_code 86 = .ok (.iconst 0, 1) := by decide +kernel
theorem dc_MD_integer_87 : decode prog_9_method_12_code 87 = .ok (.istore 4, 2) := by decide +kernel
theorem dc_MD_integer_89 : decode prog_9_method_12_code 89 = .ok (.iconst 0, 1) := by decide +kernel
theorem dc_MD_integer_90 : decode prog_9_method_12_code 90 = .ok (.istore 5, 2) := by decide +kernel
theorem dc_MD_integer_92 : decode prog_9_method_12_code 92 = .ok (.iload 5, 2) := by decide +kernel
theorem dc_MD_integer_94 : decode prog_9_method_12_code 94 = .ok (.iload_n 3, 1) := by decide +kernel
theorem dc_MD_integer_95 : decode prog_9_method_12_code 95 = .ok (.if_icmp .ge 37, 3) := by decide +kernel
theorem dc_MD_integer_98 : decode prog_9_method_12_code 98 = .ok (.sipush 256, 3) := by decide +kernel
theorem dc_MD_integer_101 : decode prog_9_method_12_code 101 = .ok (.iload 4, 2) := by decide +kernel
theorem dc_MD_integer_103 : decode prog_9_method_12_code 103 = .ok (.imul, 1) := by decide +kernel
theorem dc_MD_integer_104 : decode prog_9_method_12_code 104 = .ok (.aload_n 0, 1) := by decide +kernel
theorem dc_MD_integer_105 : decode prog_9_method_12_code 105 = .ok (.getfield 7, 3) := by decide +kernel
theorem dc_MD_integer_108 : decode prog_9_method_12_code 108 = .ok (.aload_n 0, 1) := by decide +kernel
theorem dc_MD_integer_109 : decode prog_9_method_12_code 109 = .ok (.getfield 38, 3) := by decide +kernel
theorem dc_MD_integer_112 : decode prog_9_method_12_code 112 = .ok (.iaload, 1) := by decide +kernel
theorem dc_MD_integer_113 : decode prog_9_method_12_code 113 = .ok (.iadd, 1) := by decide +kernel
theorem dc_MD_integer_114 : decode prog_9_method_12_code 114 = .ok (.istore 4, 2) := by decide +kernel
theorem dc_MD_integer_116 : decode prog_9_method_12_code 116 = .ok (.aload_n 0, 1) := by decide +kernel
theorem dc_MD_integer_117 : decode prog_9_method_12_code 117 = .ok (.aload_n 0, 1) := by decide +kernel
theorem dc_MD_integer_118 : decode prog_9_method_12_code 118 = .ok (.getfield 38, 3) := by decide +kernel
theorem dc_MD_integer_121 : decode prog_9_method_12_code 121 = .ok (.iconst 1, 1) := by decide +kernel
theorem dc_MD_integer_122 : decode prog_9_method_12_code 122 = .ok (.iadd, 1) := by decide +kernel
theorem dc_MD_integer_123 : decode prog_9_method_12_code 123 = .ok (.putfield 38, 3) := by decide +kernel
theorem dc_MD_integer_126 : decode prog_9_method_12_code 126 = .ok (.iinc 5 1, 3) := by decide +kernel
theorem dc_MD_integer_129 : decode prog_9_method_12_code 129 = .ok (.goto (-37), 3) := by decide +kernel
theorem dc_MD_integer_132 : decode prog_9_method_12_code 132 = .ok (.iload 4, 2) := by decide +kernel
theorem dc_MD_integer_134 : decode prog_9_method_12_code 134 = .ok (.ireturn, 1) := by decide +kernel
theorem dc_MD_truth_0 : decode prog_9_method_13_code 0 = .ok (.aload_n 0, 1) := by decide +kernel
theorem dc_MD_truth_1 : decode prog_9_method_13_code 1 = .ok (.iconst 1, 1) := by decide +kernel
theorem dc_MD_truth_2 : decode prog_9_method_13_code 2 = .ok (.iload_n 1, 1) := by decide +kernel
theorem dc_MD_truth_3 : decode prog_9_method_13_code 3 = .ok (.invokevirtual 41, 3) := by decide +kernel
theorem dc_MD_truth_6 : decode prog_9_method_13_code 6 = .ok (.ifCond .ne 5, 3) := by decide +kernel
theorem dc_MD_truth_9 : decode prog_9_method_13_code 9 = .ok (.iconst 0, 1) := by decide +kernel
theorem dc_MD_truth_10 : decode prog_9_method_13_code 10 = .ok (.ireturn, 1) := by decide +kernel
theorem dc_MD_truth_11 : decode prog_9_method_13_code 11 = .ok (.aload_n 0, 1) := by decide +kernel
theorem dc_MD_truth_12 : decode prog_9_method_13_code 12 = .ok (.iconst 1, 1) := by decide +kernel
theorem dc_MD_truth_13 : decode prog_9_method_13_code 13 = .ok (.iload_n 1, 1) := by decide +kernel
theorem dc_MD_truth_14 : decode prog_9_method_13_code 14 = .ok (.invokevirtual 45, 3) := by decide +kernel
theorem dc_MD_truth_17 : decode prog_9_method_13_code 17 = .ok (.istore_n 2, 1) := by decide +kernel
theorem dc_MD_truth_18 : decode prog_9_method_13_code 18 = .ok (.aload_n 0, 1) := by decide +kernel
theorem dc_MD_truth_19 : decode prog_9_method_13_code 19 = .ok (.aload_n 0, 1) := by decide +kernel
theorem dc_MD_truth_20 : decode prog_9_method_13_code 20 = .ok (.getfield 34, 3) := by decide +kernel
theorem dc_MD_truth_23 : decode prog_9_method_13_code 23 = .ok (.ifCond .ne 28, 3) := by decide +kernel
theorem dc_MD_truth_26 : decode prog_9_method_13_code 26 = .ok (.iload_n 2, 1) := by decide +kernel
theorem dc_MD_truth_27 : decode prog_9_method_13_code 27 = .ok (.aload_n 0, 1) := by decide +kernel
theorem dc_MD_truth_28 : decode prog_9_method_13_code 28 = .ok (.getfield 38, 3) := by decide +kernel
theorem dc_MD_truth_31 : decode prog_9_method_13_code 31 = .ok (.iconst 1, 1) := by decide +kernel
theorem dc_MD_truth_32 : decode prog_9_method_13_code 32 = .ok (.iadd, 1) := by decide +kernel
theorem dc_MD_truth_33 : decode prog_9_method_13_code 33 = .ok (.if_icmp .ne 18, 3) := by decide +kernel
theorem dc_MD_truth_36 : decode prog_9_method_13_code 36 = .ok (.aload_n 0, 1) := by decide +kernel
theorem dc_MD_truth_37 : decode prog_9_method_13_code 37 = .ok (.getfield 7, 3) := by decide +kernel
theorem dc_MD_truth_40 : decode prog_9_method_13_code 40 = .ok (.aload_n 0, 1) := by decide +kernel
theorem dc_MD_truth_41 : decode prog_9_method_13_code 41 = .ok (.getfield 38, 3) := by decide +kernel
theorem dc_MD_truth_44 : decode prog_9_method_13_code 44 = .ok (.iaload, 1) := by decide +kernel
theorem dc_MD_truth_45 : decode prog_9_method_13_code 45 = .ok (.sipush 255, 3) := by decide +kernel
theorem dc_MD_truth_48 : decode prog_9_method_13_code 48 = .ok (.if_icmp .eq 7, 3) := by decide +kernel
theorem dc_MD_truth_51 : decode prog_9_method_13_code 51 = .ok (.iconst 1, 1) := by decide +kernel
theorem dc_MD_truth_52 : decode prog_9_method_13_code 52 = .ok (.goto 4, 3) := by decide +kernel
theorem dc_MD_truth_55 : decode prog_9_method_13_code 55 = .ok (.iconst 0, 1) := by decide +kernel
theorem dc_MD_truth_56 : decode prog_9_method_13_code 56 = .ok (.putfield 34, 3) := by decide +kernel
theorem dc_MD_truth_59 : decode prog_9_method_13_code 59 = .ok (.aload_n 0, 1) := by decide +kernel
theorem dc_MD_truth_60 : decode prog_9_method_13_code 60 = .ok (.iload_n 2, 1) := by decide +kernel
theorem dc_MD_truth_61 : decode prog_9_method_13_code 61 = .ok (.putfield 38, 3) := by decide +kernel
theorem dc_MD_truth_64 : decode prog_9_method_13_code 64 = .ok (.iconst 1, 1) := by decide +kernel
theorem dc_MD_truth_65 : decode prog_9_method_13_code 65 = .ok (.ireturn, 1) := by decide +kernel
theorem dc_MD_name_0 : decode prog_9_method_14_code 0 = .ok (.aload_n 0, 1) := by decide +kernel
theorem dc_MD_name_1 : decode prog_9_method_14_code 1 = .ok (.bipush 48, 2) := by decide +kernel
theorem dc_MD_name_3 : decode prog_9_method_14_code 3 = .ok (.iload_n 1, 1) := by decide +kernel
theorem dc_MD_name_4 : decode prog_9_method_14_code 4 = .ok (.invokevirtual 45, 3) := by decide +kernel
theorem dc_MD_name_7 : decode prog_9_method_14_code 7 = .ok (.istore_n 2, 1) := by decide +kernel
theorem dc_MD_name_8 : decode prog_9_method_14_code 8 = .ok (.aload_n 0, 1) := by decide +kernel
theorem dc_MD_name_9 : decode prog_9_method_14_code 9 = .ok (.aload_n 0, 1) := by decide +kernel
theorem dc_MD_name_10 : decode prog_9_method_14_code 10 = .ok (.getfield 38, 3) := by decide +kernel
theorem dc_MD_name_13 : decode prog_9_method_14_code 13 = .ok (.putfield 48, 3) := by decide +kernel
theorem dc_MD_name_16 : decode prog_9_method_14_code 16 = .ok (.aload_n 0, 1) := by decide +kernel
theorem dc_MD_name_17 : decode prog_9_method_14_code 17 = .ok (.iload_n 2, 1) := by decide +kernel
theorem dc_MD_name_18 : decode prog_9_method_14_code 18 = .ok (.putfield 51, 3) := by decide +kernel
theorem dc_MD_name_21 : decode prog_9_method_14_code 21 = .ok (.aload_n 0, 1) := by decide +kernel
theorem dc_MD_name_22 : decode prog_9_method_14_code 22 = .ok (.iconst 0, 1) := by decide +kernel
theorem dc_MD_name_23 : decode prog_9_method_14_code 23 = .ok (.putfield 54, 3) := by decide +kernel
theorem dc_MD_name_26 : decode prog_9_method_14_code 26 = .ok (.aload_n 0, 1) := by decide +kernel
theorem dc_MD_name_27 : decode prog_9_method_14_code 27 = .ok (.getfield 34, 3) := by decide +kernel
theorem dc_MD_name_30 : decode prog_9_method_14_code 30 = .ok (.ifCond .ne 138, 3) := by decide +kernel
theorem dc_MD_name_33 : decode prog_9_method_14_code 33 = .ok (.aload_n 0, 1) := by decide +kernel
theorem dc_MD_name_34 : decode prog_9_method_14_code 34 = .ok (.getfield 38, 3) := by decide +kernel
theorem dc_MD_name_37 : decode prog_9_method_14_code 37 = .ok (.iload_n 2, 1) := by decide +kernel
theorem dc_MD_name_38 : decode prog_9_method_14_code 38 = .ok (.if_icmp .ge 130, 3) := by decide +kernel
theorem dc_MD_name_41 : decode prog_9_method_14_code 41 = .ok (.aload_n 0, 1) := by decide +kernel
theorem dc_MD_name_42 : decode prog_9_method_14_code 42 = .ok (.bipush 19, 2) := by decide +kernel
theorem dc_MD_name_44 : decode prog_9_method_14_code 44 = .ok (.iload_n 2, 1) := by decide +kernel
theorem dc_MD_name_45 : decode prog_9_method_14_code 45 = .ok (.invokevirtual 45, 3) := by decide +kernel
theorem dc_MD_name_48 : decode prog_9_method_14_code 48 = .ok (.istore_n 3, 1) := by decide +kernel
theorem dc_MD_name_49 : decode prog_9_method_14_code 49 = .ok (.aload_n 0, 1) := by decide +kernel
theorem dc_MD_name_50 : decode prog_9_method_14_code 50 = .ok (.aload_n 0, 1) := by decide +kernel
theorem dc_MD_name_51 : decode prog_9_method_14_code 51 = .ok (.getfield 34, 3) := by decide +kernel
theorem dc_MD_name_54 : decode prog_9_method_14_code 54 = .ok (.ifCond .ne 30, 3) := by decide +kernel
theorem dc_MD_name_57 : decode prog_9_method_14_code 57 = .ok (.iload_n 3, 1) := by decide +kernel
theorem dc_MD_name_58 : decode prog_9_method_14_code 58 = .ok (.aload_n 0, 1) := by decide +kernel
theorem dc_MD_name_59 : decode prog_9_method_14_code 59 = .ok (.getfield 38, 3) := by decide +kernel
theorem dc_MD_name_62 : decode prog_9_method_14_code 62 = .ok (.if_icmp .eq 22, 3) := by decide +kernel
theorem dc_MD_name_65 : decode prog_9_method_14_code 65 = .ok (.iload_n 3, 1) := by decide +kernel
theorem dc_MD_name_66 : decode prog_9_method_14_code 66 = .ok (.aload_n 0, 1) := by decide +kernel
theorem dc_MD_name_67 : decode prog_9_method_14_code 67 = .ok (.getfield 38, 3) := by decide +kernel
theorem dc_MD_name_70 : decode prog_9_method_14_code 70 = .ok (.isub, 1) := by decide +kernel
theorem dc_MD_name_71 : decode prog_9_method_14_code 71 = .ok (.bipush 8, 2) := by decide +kernel
theorem dc_MD_name_73 : decode prog_9_method_14_code 73 = .ok (.if_icmp .gt 11, 3) := by decide +kernel
theorem dc_MD_name_76 : decode prog_9_method_14_code 76 = .ok (.aload_n 0, 1) := by decide +kernel
theorem dc_MD_name_77 : decode prog_9_method_14_code 77 = .ok (.getfield 54, 3) := by decide +kernel
theorem dc_MD_name_80 : decode prog_9_method_14_code 80 = .ok (.iconst 4, 1) := by decide +kernel
theorem dc_MD_name_81 : decode prog_9_method_14_code 81 = .ok (.if_icmp .ne 7, 3) := by decide +kernel
theorem dc_MD_name_84 : decode prog_9_method_14_code 84 = .ok (.iconst 1, 1) := by decide +kernel
theorem dc_MD_name_85 : decode prog_9_method_14_code 85 = .ok (.goto 4, 3) := by decide +kernel
theorem dc_MD_name_88 : decode prog_9_method_14_code 88 = .ok (.iconst 0, 1) := by decide +kernel
theorem dc_MD_name_89 : decode prog_9_method_14_code 89 = .ok (.putfield 34, 3) := by decide +kernel
theorem dc_MD_name_92 : decode prog_9_method_14_code 92 = .ok (.aload_n 0, 1) := by decide +kernel
theorem dc_MD_name_93 : decode prog_9_method_14_code 93 = .ok (.getfield 38, 3) := by decide +kernel
theorem dc_MD_name_96 : decode prog_9_method_14_code 96 = .ok (.istore 4, 2) := by decide +kernel
theorem dc_MD_name_98 : decode prog_9_method_14_code 98 = .ok (.iload 4, 2) := by decide +kernel
theorem dc_MD_name_100 : decode prog_9_method_14_code 100 = .ok (.iload_n 3, 1) := by decide +kernel
theorem dc_MD_name_101 : decode prog_9_method_14_code 101 = .ok (.if_icmp .ge 49, 3) := by decide +kernel
theorem dc_MD_name_104 : decode prog_9_method_14_code 104 = .ok (.aload_n 0, 1) := by decide +kernel
theorem dc_MD_name_105 : decode prog_9_method_14_code 105 = .ok (.getfield 34, 3) := by decide +kernel
theorem dc_MD_name_108 : decode prog_9_method_14_code 108 = .ok (.ifCond .ne 42, 3) := by decide +kernel
theorem dc_MD_name_111 : decode prog_9_method_14_code 111 = .ok (.aload_n 0, 1) := by decide +kernel
theorem dc_MD_name_112 : decode prog_9_method_14_code 112 = .ok (.aload_n 0, 1) := by decide +kernel
theorem dc_MD_name_113 : decode prog_9_method_14_code 113 = .ok (.getfield 7, 3) := by decide +kernel
theorem dc_MD_name_116 : decode prog_9_method_14_code 116 = .ok (.iload 4, 2) := by decide +kernel
theorem dc_MD_name_118 : decode prog_9_method_14_code 118 = .ok (.iaload, 1) := by decide +kernel
theorem dc_MD_name_119 : decode prog_9_method_14_code 119 = .ok (.bipush 97, 2) := by decide +kernel
theorem dc_MD_name_121 : decode prog_9_method_14_code 121 = .ok (.if_icmp .lt 15, 3) := by decide +kernel
theorem dc_MD_name_124 : decode prog_9_method_14_code 124 = .ok (.aload_n 0, 1) := by decide +kernel
theorem dc_MD_name_125 : decode prog_9_method_14_code 125 = .ok (.getfield 7, 3) := by decide +kernel
theorem dc_MD_name_128 : decode prog_9_method_14_code 128 = .ok (.iload 4, 2) := by decide +kernel
theorem dc_MD_name_130 : decode prog_9_method_14_code 130 = .ok (.iaload, 1) := by decide +kernel
theorem dc_MD_name_131 : decode prog_9_method_14_code 131 = .ok (.bipush 122, 2) := by decide +kernel
theorem dc_MD_name_133 : decode prog_9_method_14_code 133 = .ok (.if_icmp .le 7, 3) := by decide +kernel
theorem dc_MD_name_136 : decode prog_9_method_14_code 136 = .ok (.iconst 1, 1) := by decide +kernel
theorem dc_MD_name_137 : decode prog_9_method_14_code 137 = .ok (.goto 4, 3) := by decide +kernel
theorem dc_MD_name_140 : decode prog_9_method_14_code 140 = .ok (.iconst 0, 1) := by decide +kernel
theorem dc_MD_name_141 : decode prog_9_method_14_code 141 = .ok (.putfield 34, 3) := by decide +kernel
theorem dc_MD_name_144 : decode prog_9_method_14_code 144 = .ok (.iinc 4 1, 3) := by decide +kernel
theorem dc_MD_name_147 : decode prog_9_method_14_code 147 = .ok (.goto (-49), 3) := by decide +kernel
theorem dc_MD_name_150 : decode prog_9_method_14_code 150 = .ok (.aload_n 0, 1) := by decide +kernel
theorem dc_MD_name_151 : decode prog_9_method_14_code 151 = .ok (.iload_n 3, 1) := by decide +kernel
theorem dc_MD_name_152 : decode prog_9_method_14_code 152 = .ok (.putfield 38, 3) := by decide +kernel
theorem dc_MD_name_155 : decode prog_9_method_14_code 155 = .ok (.aload_n 0, 1) := by decide +kernel
theorem dc_MD_name_156 : decode prog_9_method_14_code 156 = .ok (.aload_n 0, 1) := by decide +kernel
theorem dc_MD_name_157 : decode prog_9_method_14_code 157 = .ok (.getfield 54, 3) := by decide +kernel
theorem dc_MD_name_160 : decode prog_9_method_14_code 160 = .ok (.iconst 1, 1) := by decide +kernel
theorem dc_MD_name_161 : decode prog_9_method_14_code 161 = .ok (.iadd, 1) := by decide +kernel
theorem dc_MD_name_162 : decode prog_9_method_14_code 162 = .ok (.putfield 54, 3) := by decide +kernel
theorem dc_MD_name_165 : decode prog_9_method_14_code 165 = .ok (.goto (-139), 3) := by decide +kernel
theorem dc_MD_name_168 : decode prog_9_method_14_code 168 = .ok (.return_, 1) := by decide +kernel
theorem dc_MD_usageBits_0 : decode prog_9_method_15_code 0 = .ok (.aload_n 0, 1) := by decide +kernel
theorem dc_MD_usageBits_1 : decode prog_9_method_15_code 1 = .ok (.iconst 3, 1) := by decide +kernel
theorem dc_MD_usageBits_2 : decode prog_9_method_15_code 2 = .ok (.iload_n 1, 1) := by decide +kernel
theorem dc_MD_usageBits_3 : decode prog_9_method_15_code 3 = .ok (.invokevirtual 45, 3) := by decide +kernel
theorem dc_MD_usageBits_6 : decode prog_9_method_15_code 6 = .ok (.istore_n 2, 1) := by decide +kernel
theorem dc_MD_usageBits_7 : decode prog_9_method_15_code 7 = .ok (.iload_n 2, 1) := by decide +kernel
theorem dc_MD_usageBits_8 : decode prog_9_method_15_code 8 = .ok (.aload_n 0, 1) := by decide +kernel
theorem dc_MD_usageBits_9 : decode prog_9_method_15_code 9 = .ok (.getfield 38, 3) := by decide +kernel
theorem dc_MD_usageBits_12 : decode prog_9_method_15_code 12 = .ok (.isub, 1) := by decide +kernel
theorem dc_MD_usageBits_13 : decode prog_9_method_15_code 13 = .ok (.istore_n 3, 1) := by decide +kernel
theorem dc_MD_usageBits_14 : decode prog_9_method_15_code 14 = .ok (.aload_n 0, 1) := by decide +kernel
theorem dc_MD_usageBits_15 : decode prog_9_method_15_code 15 = .ok (.iconst 0, 1) := by decide +kernel
theorem dc_MD_usageBits_16 : decode prog_9_method_15_code 16 = .ok (.putfield 57, 3) := by decide +kernel
theorem dc_MD_usageBits_19 : decode prog_9_method_15_code 19 = .ok (.aload_n 0, 1) := by decide +kernel
theorem dc_MD_usageBits_20 : decode prog_9_method_15_code 20 = .ok (.getfield 34, 3) := by decide +kernel
theorem dc_MD_usageBits_23 : decode prog_9_method_15_code 23 = .ok (.ifCond .ne 30, 3) := by decide +kernel
theorem dc_MD_usageBits_26 : decode prog_9_method_15_code 26 = .ok (.iload_n 3, 1) := by decide +kernel
theorem dc_MD_usageBits_27 : decode prog_9_method_15_code 27 = .ok (.iconst 1, 1) := by decide +kernel
theorem dc_MD_usageBits_28 : decode prog_9_method_15_code 28 = .ok (.if_icmp .lt 25, 3) := by decide +kernel
theorem dc_MD_usageBits_31 : decode prog_9_method_15_code 31 = .ok (.iload_n 3, 1) := by decide +kernel
theorem dc_MD_usageBits_32 : decode prog_9_method_15_code 32 = .ok (.iconst 2, 1) := by decide +kernel
theorem dc_MD_usageBits_33 : decode prog_9_method_15_code 33 = .ok (.if_icmp .gt 20, 3) := by decide +kernel
theorem dc_MD_usageBits_36 : decode prog_9_method_15_code 36 = .ok (.iload_n 3, 1) := by decide +kernel
theorem dc_MD_usageBits_37 : decode prog_9_method_15_code 37 = .ok (.iconst 1, 1) := by decide +kernel
theorem dc_MD_usageBits_38 : decode prog_9_method_15_code 38 = .ok (.if_icmp .ne 21, 3) := by decide +kernel
theorem dc_MD_usageBits_41 : decode prog_9_method_15_code 41 = .ok (.aload_n 0, 1) := by decide +kernel
theorem dc_MD_usageBits_42 : decode prog_9_method_15_code 42 = .ok (.getfield 7, 3) := by decide +kernel
theorem dc_MD_usageBits_45 : decode prog_9_method_15_code 45 = .ok (.aload_n 0, 1) := by decide +kernel
theorem dc_MD_usageBits_46 : decode prog_9_method_15_code 46 = .ok (.getfield 38, 3) := by decide +kernel
theorem dc_MD_usageBits_49 : decode prog_9_method_15_code 49 = .ok (.iaload, 1) := by decide +kernel
theorem dc_MD_usageBits_50 : decode prog_9_method_15_code 50 = .ok (.ifCond .eq 9, 3) := by decide +kernel
theorem dc_MD_usageBits_53 : decode prog_9_method_15_code 53 = .ok (.aload_n 0, 1) := by decide +kernel
theorem dc_MD_usageBits_54 : decode prog_9_method_15_code 54 = .ok (.iconst 1, 1) := by decide +kernel
theorem dc_MD_usageBits_55 : decode prog_9_method_15_code 55 = .ok (.putfield 34, 3) := by decide +kernel
theorem dc_MD_usageBits_58 : decode prog_9_method_15_code 58 = .ok (.return_, 1) := by decide +kernel
theorem dc_MD_usageBits_59 : decode prog_9_method_15_code 59 = .ok (.iload_n 3, 1) := by decide +kernel
theorem dc_MD_usageBits_60 : decode prog_9_method_15_code 60 = .ok (.iconst 2, 1) := by decide +kernel
theorem dc_MD_usageBits_61 : decode prog_9_method_15_code 61 = .ok (.if_icmp .ne 111, 3) := by decide +kernel
theorem dc_MD_usageBits_64 : decode prog_9_method_15_code 64 = .ok (.aload_n 0, 1) := by decide +kernel
theorem dc_MD_usageBits_65 : decode prog_9_method_15_code 65 = .ok (.getfield 7, 3) := by decide +kernel
theorem dc_MD_usageBits_68 : decode prog_9_method_15_code 68 = .ok (.aload_n 0, 1) := by decide +kernel
theorem dc_MD_usageBits_69 : decode prog_9_method_15_code 69 = .ok (.getfield 38, 3) := by decide +kernel
theorem dc_MD_usageBits_72 : decode prog_9_method_15_code 72 = .ok (.iconst 1, 1) := by decide +kernel
theorem dc_MD_usageBits_73 : decode prog_9_method_15_code 73 = .ok (.iadd, 1) := by decide +kernel
theorem dc_MD_usageBits_74 : decode prog_9_method_15_code 74 = .ok (.iaload, 1) := by decide +kernel
theorem dc_MD_usageBits_75 : decode prog_9_method_15_code 75 = .ok (.istore 4, 2) := by decide +kernel
theorem dc_MD_usageBits_77 : decode prog_9_method_15_code 77 = .ok (.iconst 0, 1) := by decide +kernel
theorem dc_MD_usageBits_78 : decode prog_9_method_15_code 78 = .ok (.istore 5, 2) := by decide +kernel
theorem dc_MD_usageBits_80 : decode prog_9_method_15_code 80 = .ok (.iload 5, 2) := by decide +kernel
theorem dc_MD_usageBits_82 : decode prog_9_method_15_code 82 = .ok (.bipush 8, 2) := by decide +kernel
theorem dc_MD_usageBits_84 : decode prog_9_method_15_code 84 = .ok (.if_icmp .ge 22, 3) := by decide +kernel
theorem dc_MD_usageBits_87 : decode prog_9_method_15_code 87 = .ok (.iload 4, 2) := by decide +kernel
theorem dc_MD_usageBits_89 : decode prog_9_method_15_code 89 = .ok (.iload 5, 2) := by decide +kernel
theorem dc_MD_usageBits_91 : decode prog_9_method_15_code 91 = .ok (.ishr, 1) := by decide +kernel
theorem dc_MD_usageBits_92 : decode prog_9_method_15_code 92 = .ok (.iconst 2, 1) := by decide +kernel
theorem dc_MD_usageBits_93 : decode prog_9_method_15_code 93 = .ok (.irem, 1) := by decide +kernel
theorem dc_MD_usageBits_94 : decode prog_9_method_15_code 94 = .ok (.ifCond .ne 12, 3) := by decide +kernel
theorem dc_MD_usageBits_97 : decode prog_9_method_15_code 97 = .ok (.iload 5, 2) := by decide +kernel
theorem dc_MD_usageBits_99 : decode prog_9_method_15_code 99 = .ok (.iconst 1, 1) := by decide +kernel
theorem dc_MD_usageBits_100 : decode prog_9_method_15_code 100 = .ok (.iadd, 1) := by decide +kernel
theorem dc_MD_usageBits_101 : decode prog_9_method_15_code 101 = .ok (.istore 5, 2) := by decide +kernel
theorem dc_MD_usageBits_103 : decode prog_9_method_15_code 103 = .ok (.goto (-23), 3) := by decide +kernel
theorem dc_MD_usageBits_106 : decode prog_9_method_15_code 106 = .ok (.aload_n 0, 1) := by decide +kernel
theorem dc_MD_usageBits_107 : decode prog_9_method_15_code 107 = .ok (.iload 4, 2) := by decide +kernel
theorem dc_MD_usageBits_109 : decode prog_9_method_15_code 109 = .ok (.ifCond .eq 17, 3) := by decide +kernel
theorem dc_MD_usageBits_112 : decode prog_9_method_15_code 112 = .ok (.aload_n 0, 1) := by decide +kernel
theorem dc_MD_usageBits_113 : decode prog_9_method_15_code 113 = .ok (.getfield 7, 3) := by decide +kernel
theorem dc_MD_usageBits_116 : decode prog_9_method_15_code 116 = .ok (.aload_n 0, 1) := by decide +kernel
theorem dc_MD_usageBits_117 : decode prog_9_method_15_code 117 = .ok (.getfield 38, 3) := by decide +kernel
theorem dc_MD_usageBits_120 : decode prog_9_method_15_code 120 = .ok (.iaload, 1) := by decide +kernel
theorem dc_MD_usageBits_121 : decode prog_9_method_15_code 121 = .ok (.iload 5, 2) := by decide +kernel
theorem dc_MD_usageBits_123 : decode prog_9_method_15_code 123 = .ok (.if_icmp .eq 7, 3) := by decide +kernel
theorem dc_MD_usageBits_126 : decode prog_9_method_15_code 126 = .ok (.iconst 1, 1) := by decide +kernel
theorem dc_MD_usageBits_127 : decode prog_9_method_15_code 127 = .ok (.goto 4, 3) := by decide +kernel
theorem dc_MD_usageBits_130 : decode prog_9_method_15_code 130 = .ok (.iconst 0, 1) := by decide +kernel
theorem dc_MD_usageBits_131 : decode prog_9_method_15_code 131 = .ok (.putfield 34, 3) := by decide +kernel
theorem dc_MD_usageBits_134 : decode prog_9_method_15_code 134 = .ok (.iconst 0, 1) := by decide +kernel
theorem dc_MD_usageBits_135 : decode prog_9_method_15_code 135 = .ok (.istore 6, 2) := by decide +kernel
theorem dc_MD_usageBits_137 : decode prog_9_method_15_code 137 = .ok (.iload 6, 2) := by decide +kernel
theorem dc_MD_usageBits_139 : decode prog_9_method_15_code 139 = .ok (.bipush 8, 2) := by decide +kernel
theorem dc_MD_usageBits_141 : decode prog_9_method_15_code 141 = .ok (.if_icmp .ge 31, 3) := by decide +kernel
theorem dc_MD_usageBits_144 : decode prog_9_method_15_code 144 = .ok (.aload_n 0, 1) := by decide +kernel
theorem dc_MD_usageBits_145 : decode prog_9_method_15_code 145 = .ok (.aload_n 0, 1) := by decide +kernel
theorem dc_MD_usageBits_146 : decode prog_9_method_15_code 146 = .ok (.getfield 57, 3) := by decide +kernel
theorem dc_MD_usageBits_149 : decode prog_9_method_15_code 149 = .ok (.iload 4, 2) := by decide +kernel
theorem dc_MD_usageBits_151 : decode prog_9_method_15_code 151 = .ok (.bipush 7, 2) := by decide +kernel
theorem dc_MD_usageBits_153 : decode prog_9_method_15_code 153 = .ok (.iload 6, 2) := by decide +kernel
theorem dc_MD_usageBits_155 : decode prog_9_method_15_code 155 = .ok (.isub, 1) := by decide +kernel
theorem dc_MD_usageBits_156 : decode prog_9_method_15_code 156 = .ok (.ishr, 1) := by decide +kernel
theorem dc_MD_usageBits_157 : decode prog_9_method_15_code 157 = .ok (.iconst 2, 1) := by decide +kernel
theorem dc_MD_usageBits_158 : decode prog_9_method_15_code 158 = .ok (.irem, 1) := by decide +kernel
theorem dc_MD_usageBits_159 : decode prog_9_method_15_code 159 = .ok (.iload 6, 2) := by decide +kernel
theorem dc_MD_usageBits_161 : decode prog_9_method_15_code 161 = .ok (.ishl, 1) := by decide +kernel
theorem dc_MD_usageBits_162 : decode prog_9_method_15_code 162 = .ok (.iadd, 1) := by decide +kernel
theorem dc_MD_usageBits_163 : decode prog_9_method_15_code 163 = .ok (.putfield 57, 3) := by decide +kernel
theorem dc_MD_usageBits_166 : decode prog_9_method_15_code 166 = .ok (.iinc 6 1, 3) := by decide +kernel
theorem dc_MD_usageBits_169 : decode prog_9_method_15_code 169 = .ok (.goto (-32), 3) := by decide +kernel
theorem dc_MD_usageBits_172 : decode prog_9_method_15_code 172 = .ok (.aload_n 0, 1) := by decide +kernel
theorem dc_MD_usageBits_173 : decode prog_9_method_15_code 173 = .ok (.iload_n 2, 1) := by decide +kernel
theorem dc_MD_usageBits_174 : decode prog_9_method_15_code 174 = .ok (.putfield 38, 3) := by decide +kernel
theorem dc_MD_usageBits_177 : decode prog_9_method_15_code 177 = .ok (.return_, 1) := by decide +kernel
theorem dc_MD_basicContent_0 : decode prog_9_method_16_code 0 = .ok (.aload_n 0, 1) := by decide +kernel
theorem dc_MD_basicContent_1 : decode prog_9_method_16_code 1 = .ok (.bipush 48, 2) := by decide +kernel
theorem dc_MD_basicContent_3 : decode prog_9_method_16_code 3 = .ok (.iload_n 1, 1) := by decide +kernel
theorem dc_MD_basicContent_4 : decode prog_9_method_16_code 4 = .ok (.invokevirtual 45, 3) := by decide +kernel
theorem dc_MD_basicContent_7 : decode prog_9_method_16_code 7 = .ok (.istore_n 2, 1) := by decide +kernel
theorem dc_MD_basicContent_8 : decode prog_9_method_16_code 8 = .ok (.aload_n 0, 1) := by decide +kernel
theorem dc_MD_basicContent_9 : decode prog_9_method_16_code 9 = .ok (.iconst 1, 1) := by decide +kernel
theorem dc_MD_basicContent_10 : decode prog_9_method_16_code 10 = .ok (.putfield 60, 3) := by decide +kernel
theorem dc_MD_basicContent_13 : decode prog_9_method_16_code 13 = .ok (.aload_n 0, 1) := by decide +kernel
theorem dc_MD_basicContent_14 : decode prog_9_method_16_code 14 = .ok (.aload_n 0, 1) := by decide +kernel
theorem dc_MD_basicContent_15 : decode prog_9_method_16_code 15 = .ok (.iload_n 2, 1) := by decide +kernel
theorem dc_MD_basicContent_16 : decode prog_9_method_16_code 16 = .ok (.invokevirtual 63, 3) := by decide +kernel
theorem dc_MD_basicContent_19 : decode prog_9_method_16_code 19 = .ok (.putfield 67, 3) := by decide +kernel
theorem dc_MD_basicContent_22 : decode prog_9_method_16_code 22 = .ok (.aload_n 0, 1) := by decide +kernel
theorem dc_MD_basicContent_23 : decode prog_9_method_16_code 23 = .ok (.getfield 67, 3) := by decide +kernel
theorem dc_MD_basicContent_26 : decode prog_9_method_16_code 26 = .ok (.ifCond .eq 27, 3) := by decide +kernel
theorem dc_MD_basicContent_29 : decode prog_9_method_16_code 29 = .ok (.aload_n 0, 1) := by decide +kernel
theorem dc_MD_basicContent_30 : decode prog_9_method_16_code 30 = .ok (.getfield 34, 3) := by decide +kernel
theorem dc_MD_basicContent_33 : decode prog_9_method_16_code 33 = .ok (.ifCond .ne 20, 3) := by decide +kernel
theorem dc_MD_basicContent_36 : decode prog_9_method_16_code 36 = .ok (.aload_n 0, 1) := by decide +kernel
theorem dc_MD_basicContent_37 : decode prog_9_method_16_code 37 = .ok (.getfield 38, 3) := by decide +kernel
theorem dc_MD_basicContent_40 : decode prog_9_method_16_code 40 = .ok (.iload_n 2, 1) := by decide +kernel
theorem dc_MD_basicContent_41 : decode prog_9_method_16_code 41 = .ok (.if_icmp .ge 12, 3) := by decide +kernel
theorem dc_MD_basicContent_44 : decode prog_9_method_16_code 44 = .ok (.aload_n 0, 1) := by decide +kernel
theorem dc_MD_basicContent_45 : decode prog_9_method_16_code 45 = .ok (.aload_n 0, 1) := by decide +kernel
theorem dc_MD_basicContent_46 : decode prog_9_method_16_code 46 = .ok (.iload_n 2, 1) := by decide +kernel
theorem dc_MD_basicContent_47 : decode prog_9_method_16_code 47 = .ok (.invokevirtual 70, 3) := by decide +kernel
theorem dc_MD_basicContent_50 : decode prog_9_method_16_code 50 = .ok (.putfield 74, 3) := by decide +kernel
theorem dc_MD_basicContent_53 : decode prog_9_method_16_code 53 = .ok (.aload_n 0, 1) := by decide +kernel
theorem dc_MD_basicContent_54 : decode prog_9_method_16_code 54 = .ok (.iload_n 2, 1) := by decide +kernel
theorem dc_MD_basicContent_55 : decode prog_9_method_16_code 55 = .ok (.invokevirtual 77, 3) := by decide +kernel
theorem dc_MD_basicContent_58 : decode prog_9_method_16_code 58 = .ok (.return_, 1) := by decide +kernel
theorem dc_MD_names_0 : decode prog_9_method_17_code 0 = .ok (.aload_n 0, 1) := by decide +kernel
theorem dc_MD_names_1 : decode prog_9_method_17_code 1 = .ok (.iload_n 1, 1) := by decide +kernel
theorem dc_MD_names_2 : decode prog_9_method_17_code 2 = .ok (.iload_n 2, 1) := by decide +kernel
theorem dc_MD_names_3 : decode prog_9_method_17_code 3 = .ok (.invokevirtual 45, 3) := by decide +kernel
theorem dc_MD_names_6 : decode prog_9_method_17_code 6 = .ok (.istore_n 3, 1) := by decide +kernel
theorem dc_MD_names_7 : decode prog_9_method_17_code 7 = .ok (.iconst 0, 1) := by decide +kernel
theorem dc_MD_names_8 : decode prog_9_method_17_code 8 = .ok (.istore 4, 2) := by decide +kernel
theorem dc_MD_names_10 : decode prog_9_method_17_code 10 = .ok (.aload_n 0, 1) := by decide +kernel
theorem dc_MD_names_11 : decode prog_9_method_17_code 11 = .ok (.getfield 34, 3) := by decide +kernel
theorem dc_MD_names_14 : decode prog_9_method_17_code 14 = .ok (.ifCond .ne 25, 3) := by decide +kernel
theorem dc_MD_names_17 : decode prog_9_method_17_code 17 = .ok (.aload_n 0, 1) := by decide +kernel
theorem dc_MD_names_18 : decode prog_9_method_17_code 18 = .ok (.getfield 38, 3) := by decide +kernel
theorem dc_MD_names_21 : decode prog_9_method_17_code 21 = .ok (.iload_n 3, 1) := by decide +kernel
theorem dc_MD_names_22 : decode prog_9_method_17_code 22 = .ok (.if_icmp .ge 17, 3) := by decide +kernel
theorem dc_MD_names_25 : decode prog_9_method_17_code 25 = .ok (.aload_n 0, 1) := by decide +kernel
theorem dc_MD_names_26 : decode prog_9_method_17_code 26 = .ok (.iload_n 3, 1) := by decide +kernel
theorem dc_MD_names_27 : decode prog_9_method_17_code 27 = .ok (.invokevirtual 81, 3) := by decide +kernel
theorem dc_MD_names_30 : decode prog_9_method_17_code 30 = .ok (.iload 4, 2) := by decide +kernel
theorem dc_MD_names_32 : decode prog_9_method_17_code 32 = .ok (.iconst 1, 1) := by decide +kernel
theorem dc_MD_names_33 : decode prog_9_method_17_code 33 = .ok (.iadd, 1) := by decide +kernel
theorem dc_MD_names_34 : decode prog_9_method_17_code 34 = .ok (.istore 4, 2) := by decide +kernel
theorem dc_MD_names_36 : decode prog_9_method_17_code 36 = .ok (.goto (-26), 3) := by decide +kernel
theorem dc_MD_names_39 : decode prog_9_method_17_code 39 = .ok (.aload_n 0, 1) := by decide +kernel
theorem dc_MD_names_40 : decode prog_9_method_17_code 40 = .ok (.aload_n 0, 1) := by decide +kernel
theorem dc_MD_names_41 : decode prog_9_method_17_code 41 = .ok (.getfield 34, 3) := by decide +kernel
theorem dc_MD_names_44 : decode prog_9_method_17_code 44 = .ok (.ifCond .ne 15, 3) := by decide +kernel
theorem dc_MD_names_47 : decode prog_9_method_17_code 47 = .ok (.iload 4, 2) := by decide +kernel
theorem dc_MD_names_49 : decode prog_9_method_17_code 49 = .ok (.iconst 1, 1) := by decide +kernel
theorem dc_MD_names_50 : decode prog_9_method_17_code 50 = .ok (.if_icmp .lt 9, 3) := by decide +kernel
theorem dc_MD_names_53 : decode prog_9_method_17_code 53 = .ok (.iload 4, 2) := by decide +kernel
theorem dc_MD_names_55 : decode prog_9_method_17_code 55 = .ok (.iconst 3, 1) := by decide +kernel
theorem dc_MD_names_56 : decode prog_9_method_17_code 56 = .ok (.if_icmp .le 7, 3) := by decide +kernel
theorem dc_MD_names_59 : decode prog_9_method_17_code 59 = .ok (.iconst 1, 1) := by decide +kernel
theorem dc_MD_names_60 : decode prog_9_method_17_code 60 = .ok (.goto 4, 3) := by decide +kernel
theorem dc_MD_names_63 : decode prog_9_method_17_code 63 = .ok (.iconst 0, 1) := by decide +kernel
theorem dc_MD_names_64 : decode prog_9_method_17_code 64 = .ok (.putfield 34, 3) := by decide +kernel
theorem dc_MD_names_67 : decode prog_9_method_17_code 67 = .ok (.iload 4, 2) := by decide +kernel
theorem dc_MD_names_69 : decode prog_9_method_17_code 69 = .ok (.ireturn, 1) := by decide +kernel
theorem dc_MD_bounds_0 : decode prog_9_method_18_code 0 = .ok (.aload_n 0, 1) := by decide +kernel
theorem dc_MD_bounds_1 : decode prog_9_method_18_code 1 = .ok (.bipush 48, 2) := by decide +kernel
theorem dc_MD_bounds_3 : decode prog_9_method_18_code 3 = .ok (.iload_n 1, 1) := by decide +kernel
theorem dc_MD_bounds_4 : decode prog_9_method_18_code 4 = .ok (.invokevirtual 45, 3) := by decide +kernel
theorem dc_MD_bounds_7 : decode prog_9_method_18_code 7 = .ok (.istore_n 2, 1) := by decide +kernel
theorem dc_MD_bounds_8 : decode prog_9_method_18_code 8 = .ok (.aload_n 0, 1) := by decide +kernel
theorem dc_MD_bounds_9 : decode prog_9_method_18_code 9 = .ok (.sipush 160, 3) := by decide +kernel
theorem dc_MD_bounds_12 : decode prog_9_method_18_code 12 = .ok (.iload_n 2, 1) := by decide +kernel
theorem dc_MD_bounds_13 : decode prog_9_method_18_code 13 = .ok (.invokevirtual 41, 3) := by decide +kernel
theorem dc_MD_bounds_16 : decode prog_9_method_18_code 16 = .ok (.ifCond .eq 33, 3) := by decide +kernel
theorem dc_MD_bounds_19 : decode prog_9_method_18_code 19 = .ok (.aload_n 0, 1) := by decide +kernel
theorem dc_MD_bounds_20 : decode prog_9_method_18_code 20 = .ok (.aload_n 0, 1) := by decide +kernel
theorem dc_MD_bounds_21 : decode prog_9_method_18_code 21 = .ok (.getfield 38, 3) := by decide +kernel
theorem dc_MD_bounds_24 : decode prog_9_method_18_code 24 = .ok (.iconst 2, 1) := by decide +kernel
theorem dc_MD_bounds_25 : decode prog_9_method_18_code 25 = .ok (.iadd, 1) := by decide +kernel
theorem dc_MD_bounds_26 : decode prog_9_method_18_code 26 = .ok (.putfield 84, 3) := by decide +kernel
theorem dc_MD_bounds_29 : decode prog_9_method_18_code 29 = .ok (.aload_n 0, 1) := by decide +kernel
theorem dc_MD_bounds_30 : decode prog_9_method_18_code 30 = .ok (.aload_n 0, 1) := by decide +kernel
theorem dc_MD_bounds_31 : decode prog_9_method_18_code 31 = .ok (.sipush 160, 3) := by decide +kernel
theorem dc_MD_bounds_34 : decode prog_9_method_18_code 34 = .ok (.iload_n 2, 1) := by decide +kernel
theorem dc_MD_bounds_35 : decode prog_9_method_18_code 35 = .ok (.invokevirtual 87, 3) := by decide +kernel
theorem dc_MD_bounds_38 : decode prog_9_method_18_code 38 = .ok (.putfield 90, 3) := by decide +kernel
theorem dc_MD_bounds_41 : decode prog_9_method_18_code 41 = .ok (.aload_n 0, 1) := by decide +kernel
theorem dc_MD_bounds_42 : decode prog_9_method_18_code 42 = .ok (.aload_n 0, 1) := by decide +kernel
theorem dc_MD_bounds_43 : decode prog_9_method_18_code 43 = .ok (.getfield 38, 3) := by decide +kernel
theorem dc_MD_bounds_46 : decode prog_9_method_18_code 46 = .ok (.putfield 93, 3) := by decide +kernel
theorem dc_MD_bounds_49 : decode prog_9_method_18_code 49 = .ok (.aload_n 0, 1) := by decide +kernel
theorem dc_MD_bounds_50 : decode prog_9_method_18_code 50 = .ok (.sipush 161, 3) := by decide +kernel
theorem dc_MD_bounds_53 : decode prog_9_method_18_code 53 = .ok (.iload_n 2, 1) := by decide +kernel
theorem dc_MD_bounds_54 : decode prog_9_method_18_code 54 = .ok (.invokevirtual 41, 3) := by decide +kernel
theorem dc_MD_bounds_57 : decode prog_9_method_18_code 57 = .ok (.ifCond .eq 33, 3) := by decide +kernel
theorem dc_MD_bounds_60 : decode prog_9_method_18_code 60 = .ok (.aload_n 0, 1) := by decide +kernel
theorem dc_MD_bounds_61 : decode prog_9_method_18_code 61 = .ok (.aload_n 0, 1) := by decide +kernel
theorem dc_MD_bounds_62 : decode prog_9_method_18_code 62 = .ok (.getfield 38, 3) := by decide +kernel
theorem dc_MD_bounds_65 : decode prog_9_method_18_code 65 = .ok (.iconst 2, 1) := by decide +kernel
theorem dc_MD_bounds_66 : decode prog_9_method_18_code 66 = .ok (.iadd, 1) := by decide +kernel
theorem dc_MD_bounds_67 : decode prog_9_method_18_code 67 = .ok (.putfield 96, 3) := by decide +kernel
theorem dc_MD_bounds_70 : decode prog_9_method_18_code 70 = .ok (.aload_n 0, 1) := by decide +kernel
theorem dc_MD_bounds_71 : decode prog_9_method_18_code 71 = .ok (.aload_n 0, 1) := by decide +kernel
theorem dc_MD_bounds_72 : decode prog_9_method_18_code 72 = .ok (.sipush 161, 3) := by decide +kernel
theorem dc_MD_bounds_75 : decode prog_9_method_18_code 75 = .ok (.iload_n 2, 1) := by decide +kernel
theorem dc_MD_bounds_76 : decode prog_9_method_18_code 76 = .ok (.invokevirtual 87, 3) := by decide +kernel
theorem dc_MD_bounds_79 : decode prog_9_method_18_code 79 = .ok (.putfield 99, 3) := by decide +kernel
theorem dc_MD_bounds_82 : decode prog_9_method_18_code 82 = .ok (.aload_n 0, 1) := by decide +kernel
theorem dc_MD_bounds_83 : decode prog_9_method_18_code 83 = .ok (.aload_n 0, 1) := by decide +kernel
theorem dc_MD_bounds_84 : decode prog_9_method_18_code 84 = .ok (.getfield 38, 3) := by decide +kernel
theorem dc_MD_bounds_87 : decode prog_9_method_18_code 87 = .ok (.putfield 102, 3) := by decide +kernel
theorem dc_MD_bounds_90 : decode prog_9_method_18_code 90 = .ok (.aload_n 0, 1) := by decide +kernel
theorem dc_MD_bounds_91 : decode prog_9_method_18_code 91 = .ok (.aload_n 0, 1) := by decide +kernel
theorem dc_MD_bounds_92 : decode prog_9_method_18_code 92 = .ok (.getfield 34, 3) := by decide +kernel
theorem dc_MD_bounds_95 : decode prog_9_method_18_code 95 = .ok (.ifCond .ne 15, 3) := by decide +kernel
theorem dc_MD_bounds_98 : decode prog_9_method_18_code 98 = .ok (.aload_n 0, 1) := by decide +kernel
theorem dc_MD_bounds_99 : decode prog_9_method_18_code 99 = .ok (.getfield 90, 3) := by decide +kernel
theorem dc_MD_bounds_102 : decode prog_9_method_18_code 102 = .ok (.aload_n 0, 1) := by decide +kernel
theorem dc_MD_bounds_103 : decode prog_9_method_18_code 103 = .ok (.getfield 99, 3) := by decide +kernel
theorem dc_MD_bounds_106 : decode prog_9_method_18_code 106 = .ok (.iadd, 1) := by decide +kernel
theorem dc_MD_bounds_107 : decode prog_9_method_18_code 107 = .ok (.ifCond .ne 7, 3) := by decide +kernel
theorem dc_MD_bounds_110 : decode prog_9_method_18_code 110 = .ok (.iconst 1, 1) := by decide +kernel
theorem dc_MD_bounds_111 : decode prog_9_method_18_code 111 = .ok (.goto 4, 3) := by decide +kernel
theorem dc_MD_bounds_114 : decode prog_9_method_18_code 114 = .ok (.iconst 0, 1) := by decide +kernel
theorem dc_MD_bounds_115 : decode prog_9_method_18_code 115 = .ok (.putfield 34, 3) := by decide +kernel
theorem dc_MD_bounds_118 : decode prog_9_method_18_code 118 = .ok (.aload_n 0, 1) := by decide +kernel
theorem dc_MD_bounds_119 : decode prog_9_method_18_code 119 = .ok (.iload_n 2, 1) := by decide +kernel
theorem dc_MD_bounds_120 : decode prog_9_method_18_code 120 = .ok (.invokevirtual 77, 3) := by decide +kernel
theorem dc_MD_bounds_123 : decode prog_9_method_18_code 123 = .ok (.return_, 1) := by decide +kernel
theorem dc_MD_extension_0 : decode prog_9_method_19_code 0 = .ok (.aload_n 0, 1) := by decide +kernel
theorem dc_MD_extension_1 : decode prog_9_method_19_code 1 = .ok (.bipush 48, 2) := by decide +kernel
theorem dc_MD_extension_3 : decode prog_9_method_19_code 3 = .ok (.iload_n 1, 1) := by decide +kernel
theorem dc_MD_extension_4 : decode prog_9_method_19_code 4 = .ok (.invokevirtual 45, 3) := by decide +kernel
theorem dc_MD_extension_7 : decode prog_9_method_19_code 7 = .ok (.istore_n 2, 1) := by decide +kernel
theorem dc_MD_extension_8 : decode prog_9_method_19_code 8 = .ok (.aload_n 0, 1) := by decide +kernel
theorem dc_MD_extension_9 : decode prog_9_method_19_code 9 = .ok (.iload_n 2, 1) := by decide +kernel
theorem dc_MD_extension_10 : decode prog_9_method_19_code 10 = .ok (.invokevirtual 70, 3) := by decide +kernel
theorem dc_MD_extension_13 : decode prog_9_method_19_code 13 = .ok (.istore_n 3, 1) := by decide +kernel
theorem dc_MD_extension_14 : decode prog_9_method_19_code 14 = .ok (.aload_n 0, 1) := by decide +kernel
theorem dc_MD_extension_15 : decode prog_9_method_19_code 15 = .ok (.aload_n 0, 1) := by decide +kernel
theorem dc_MD_extension_16 : decode prog_9_method_19_code 16 = .ok (.getfield 34, 3) := by decide +kernel
theorem dc_MD_extension_19 : decode prog_9_method_19_code 19 = .ok (.ifCond .ne 18, 3) := by decide +kernel
theorem dc_MD_extension_22 : decode prog_9_method_19_code 22 = .ok (.iload_n 3, 1) := by decide +kernel
theorem dc_MD_extension_23 : decode prog_9_method_19_code 23 = .ok (.sipush 255, 3) := by decide +kernel
theorem dc_MD_extension_26 : decode prog_9_method_19_code 26 = .ok (.if_icmp .gt 11, 3) := by decide +kernel
theorem dc_MD_extension_29 : decode prog_9_method_19_code 29 = .ok (.aload_n 0, 1) := by decide +kernel
theorem dc_MD_extension_30 : decode prog_9_method_19_code 30 = .ok (.getfield 105, 3) := by decide +kernel
theorem dc_MD_extension_33 : decode prog_9_method_19_code 33 = .ok (.iconst 4, 1) := by decide +kernel
theorem dc_MD_extension_34 : decode prog_9_method_19_code 34 = .ok (.if_icmp .ne 7, 3) := by decide +kernel
theorem dc_MD_extension_37 : decode prog_9_method_19_code 37 = .ok (.iconst 1, 1) := by decide +kernel
theorem dc_MD_extension_38 : decode prog_9_method_19_code 38 = .ok (.goto 4, 3) := by decide +kernel
theorem dc_MD_extension_41 : decode prog_9_method_19_code 41 = .ok (.iconst 0, 1) := by decide +kernel
theorem dc_MD_extension_42 : decode prog_9_method_19_code 42 = .ok (.putfield 34, 3) := by decide +kernel
theorem dc_MD_extension_45 : decode prog_9_method_19_code 45 = .ok (.iconst 0, 1) := by decide +kernel
theorem dc_MD_extension_46 : decode prog_9_method_19_code 46 = .ok (.istore 4, 2) := by decide +kernel
theorem dc_MD_extension_48 : decode prog_9_method_19_code 48 = .ok (.iload 4, 2) := by decide +kernel
theorem dc_MD_extension_50 : decode prog_9_method_19_code 50 = .ok (.aload_n 0, 1) := by decide +kernel
theorem dc_MD_extension_51 : decode prog_9_method_19_code 51 = .ok (.getfield 105, 3) := by decide +kernel
theorem dc_MD_extension_54 : decode prog_9_method_19_code 54 = .ok (.if_icmp .ge 36, 3) := by decide +kernel
theorem dc_MD_extension_57 : decode prog_9_method_19_code 57 = .ok (.aload_n 0, 1) := by decide +kernel
theorem dc_MD_extension_58 : decode prog_9_method_19_code 58 = .ok (.getfield 34, 3) := by decide +kernel
theorem dc_MD_extension_61 : decode prog_9_method_19_code 61 = .ok (.ifCond .ne 29, 3) := by decide +kernel
theorem dc_MD_extension_64 : decode prog_9_method_19_code 64 = .ok (.aload_n 0, 1) := by decide +kernel
theorem dc_MD_extension_65 : decode prog_9_method_19_code 65 = .ok (.aload_n 0, 1) := by decide +kernel
theorem dc_MD_extension_66 : decode prog_9_method_19_code 66 = .ok (.getfield 19, 3) := by decide +kernel
theorem dc_MD_extension_69 : decode prog_9_method_19_code 69 = .ok (.iload 4, 2) := by decide +kernel
theorem dc_MD_extension_71 : decode prog_9_method_19_code 71 = .ok (.iaload, 1) := by decide +kernel
theorem dc_MD_extension_72 : decode prog_9_method_19_code 72 = .ok (.iload_n 3, 1) := by decide +kernel
theorem dc_MD_extension_73 : decode prog_9_method_19_code 73 = .ok (.if_icmp .ne 7, 3) := by decide +kernel
theorem dc_MD_extension_76 : decode prog_9_method_19_code 76 = .ok (.iconst 1, 1) := by decide +kernel
theorem dc_MD_extension_77 : decode prog_9_method_19_code 77 = .ok (.goto 4, 3) := by decide +kernel
theorem dc_MD_extension_80 : decode prog_9_method_19_code 80 = .ok (.iconst 0, 1) := by decide +kernel
theorem dc_MD_extension_81 : decode prog_9_method_19_code 81 = .ok (.putfield 34, 3) := by decide +kernel
theorem dc_MD_extension_84 : decode prog_9_method_19_code 84 = .ok (.iinc 4 1, 3) := by decide +kernel
theorem dc_MD_extension_87 : decode prog_9_method_19_code 87 = .ok (.goto (-39), 3) := by decide +kernel
theorem dc_MD_extension_90 : decode prog_9_method_19_code 90 = .ok (.aload_n 0, 1) := by decide +kernel
theorem dc_MD_extension_91 : decode prog_9_method_19_code 91 = .ok (.getfield 34, 3) := by decide +kernel
theorem dc_MD_extension_94 : decode prog_9_method_19_code 94 = .ok (.ifCond .eq 4, 3) := by decide +kernel
theorem dc_MD_extension_97 : decode prog_9_method_19_code 97 = .ok (.return_, 1) := by decide +kernel
theorem dc_MD_extension_98 : decode prog_9_method_19_code 98 = .ok (.aload_n 0, 1) := by decide +kernel
theorem dc_MD_extension_99 : decode prog_9_method_19_code 99 = .ok (.getfield 19, 3) := by decide +kernel
theorem dc_MD_extension_102 : decode prog_9_method_19_code 102 = .ok (.aload_n 0, 1) := by decide +kernel
theorem dc_MD_extension_103 : decode prog_9_method_19_code 103 = .ok (.getfield 105, 3) := by decide +kernel
theorem dc_MD_extension_106 : decode prog_9_method_19_code 106 = .ok (.iload_n 3, 1) := by decide +kernel
theorem dc_MD_extension_107 : decode prog_9_method_19_code 107 = .ok (.iastore, 1) := by decide +kernel
theorem dc_MD_extension_108 : decode prog_9_method_19_code 108 = .ok (.aload_n 0, 1) := by decide +kernel
theorem dc_MD_extension_109 : decode prog_9_method_19_code 109 = .ok (.aload_n 0, 1) := by decide +kernel
theorem dc_MD_extension_110 : decode prog_9_method_19_code 110 = .ok (.getfield 105, 3) := by decide +kernel
theorem dc_MD_extension_113 : decode prog_9_method_19_code 113 = .ok (.iconst 1, 1) := by decide +kernel
theorem dc_MD_extension_114 : decode prog_9_method_19_code 114 = .ok (.iadd, 1) := by decide +kernel
theorem dc_MD_extension_115 : decode prog_9_method_19_code 115 = .ok (.putfield 105, 3) := by decide +kernel
theorem dc_MD_extension_118 : decode prog_9_method_19_code 118 = .ok (.aload_n 0, 1) := by decide +kernel
theorem dc_MD_extension_119 : decode prog_9_method_19_code 119 = .ok (.iload_n 2, 1) := by decide +kernel
theorem dc_MD_extension_120 : decode prog_9_method_19_code 120 = .ok (.invokevirtual 63, 3) := by decide +kernel
theorem dc_MD_extension_123 : decode prog_9_method_19_code 123 = .ok (.istore 4, 2) := by decide +kernel
theorem dc_MD_extension_125 : decode prog_9_method_19_code 125 = .ok (.aload_n 0, 1) := by decide +kernel
theorem dc_MD_extension_126 : decode prog_9_method_19_code 126 = .ok (.aload_n 0, 1) := by decide +kernel
theorem dc_MD_extension_127 : decode prog_9_method_19_code 127 = .ok (.getfield 108, 3) := by decide +kernel
theorem dc_MD_extension_130 : decode prog_9_method_19_code 130 = .ok (.ifCond .ne 18, 3) := by decide +kernel
theorem dc_MD_extension_133 : decode prog_9_method_19_code 133 = .ok (.iload 4, 2) := by decide +kernel
theorem dc_MD_extension_135 : decode prog_9_method_19_code 135 = .ok (.ifCond .eq 17, 3) := by decide +kernel
theorem dc_MD_extension_138 : decode prog_9_method_19_code 138 = .ok (.iload_n 3, 1) := by decide +kernel
theorem dc_MD_extension_139 : decode prog_9_method_19_code 139 = .ok (.iconst 1, 1) := by decide +kernel
theorem dc_MD_extension_140 : decode prog_9_method_19_code 140 = .ok (.if_icmp .lt 8, 3) := by decide +kernel
theorem dc_MD_extension_143 : decode prog_9_method_19_code 143 = .ok (.iload_n 3, 1) := by decide +kernel
theorem dc_MD_extension_144 : decode prog_9_method_19_code 144 = .ok (.iconst 3, 1) := by decide +kernel
theorem dc_MD_extension_145 : decode prog_9_method_19_code 145 = .ok (.if_icmp .le 7, 3) := by decide +kernel
theorem dc_MD_extension_148 : decode prog_9_method_19_code 148 = .ok (.iconst 1, 1) := by decide +kernel
theorem dc_MD_extension_149 : decode prog_9_method_19_code 149 = .ok (.goto 4, 3) := by decide +kernel
theorem dc_MD_extension_152 : decode prog_9_method_19_code 152 = .ok (.iconst 0, 1) := by decide +kernel
theorem dc_MD_extension_153 : decode prog_9_method_19_code 153 = .ok (.putfield 108, 3) := by decide +kernel
theorem dc_MD_extension_156 : decode prog_9_method_19_code 156 = .ok (.aload_n 0, 1) := by decide +kernel
theorem dc_MD_extension_157 : decode prog_9_method_19_code 157 = .ok (.iconst 4, 1) := by decide +kernel
theorem dc_MD_extension_158 : decode prog_9_method_19_code 158 = .ok (.iload_n 2, 1) := by decide +kernel
theorem dc_MD_extension_159 : decode prog_9_method_19_code 159 = .ok (.invokevirtual 45, 3) := by decide +kernel
theorem dc_MD_extension_162 : decode prog_9_method_19_code 162 = .ok (.istore 5, 2) := by decide +kernel
theorem dc_MD_extension_164 : decode prog_9_method_19_code 164 = .ok (.iload_n 3, 1) := by decide +kernel
theorem dc_MD_extension_165 : decode prog_9_method_19_code 165 = .ok (.iconst 1, 1) := by decide +kernel
theorem dc_MD_extension_166 : decode prog_9_method_19_code 166 = .ok (.if_icmp .ne 12, 3) := by decide +kernel
theorem dc_MD_extension_169 : decode prog_9_method_19_code 169 = .ok (.aload_n 0, 1) := by decide +kernel
theorem dc_MD_extension_170 : decode prog_9_method_19_code 170 = .ok (.iload 5, 2) := by decide +kernel
theorem dc_MD_extension_172 : decode prog_9_method_19_code 172 = .ok (.invokevirtual 111, 3) := by decide +kernel
theorem dc_MD_extension_175 : decode prog_9_method_19_code 175 = .ok (.goto 65, 3) := by decide +kernel
theorem dc_MD_extension_178 : decode prog_9_method_19_code 178 = .ok (.iload_n 3, 1) := by decide +kernel
theorem dc_MD_extension_179 : decode prog_9_method_19_code 179 = .ok (.iconst 2, 1) := by decide +kernel
theorem dc_MD_extension_180 : decode prog_9_method_19_code 180 = .ok (.if_icmp .ne 12, 3) := by decide +kernel
theorem dc_MD_extension_183 : decode prog_9_method_19_code 183 = .ok (.aload_n 0, 1) := by decide +kernel
theorem dc_MD_extension_184 : decode prog_9_method_19_code 184 = .ok (.iload 5, 2) := by decide +kernel
theorem dc_MD_extension_186 : decode prog_9_method_19_code 186 = .ok (.invokevirtual 114, 3) := by decide +kernel
theorem dc_MD_extension_189 : decode prog_9_method_19_code 189 = .ok (.goto 51, 3) := by decide +kernel
theorem dc_MD_extension_192 : decode prog_9_method_19_code 192 = .ok (.iload_n 3, 1) := by decide +kernel
theorem dc_MD_extension_193 : decode prog_9_method_19_code 193 = .ok (.iconst 3, 1) := by decide +kernel
theorem dc_MD_extension_194 : decode prog_9_method_19_code 194 = .ok (.if_icmp .ne 12, 3) := by decide +kernel
theorem dc_MD_extension_197 : decode prog_9_method_19_code 197 = .ok (.aload_n 0, 1) := by decide +kernel
theorem dc_MD_extension_198 : decode prog_9_method_19_code 198 = .ok (.iload 5, 2) := by decide +kernel
theorem dc_MD_extension_200 : decode prog_9_method_19_code 200 = .ok (.invokevirtual 117, 3) := by decide +kernel
theorem dc_MD_extension_203 : decode prog_9_method_19_code 203 = .ok (.goto 37, 3) := by decide +kernel
theorem dc_MD_extension_206 : decode prog_9_method_19_code 206 = .ok (.aload_n 0, 1) := by decide +kernel
theorem dc_MD_extension_207 : decode prog_9_method_19_code 207 = .ok (.aload_n 0, 1) := by decide +kernel
theorem dc_MD_extension_208 : decode prog_9_method_19_code 208 = .ok (.getfield 34, 3) := by decide +kernel
theorem dc_MD_extension_211 : decode prog_9_method_19_code 211 = .ok (.ifCond .ne 15, 3) := by decide +kernel
theorem dc_MD_extension_214 : decode prog_9_method_19_code 214 = .ok (.iload 5, 2) := by decide +kernel
theorem dc_MD_extension_216 : decode prog_9_method_19_code 216 = .ok (.aload_n 0, 1) := by decide +kernel
theorem dc_MD_extension_217 : decode prog_9_method_19_code 217 = .ok (.getfield 38, 3) := by decide +kernel
theorem dc_MD_extension_220 : decode prog_9_method_19_code 220 = .ok (.isub, 1) := by decide +kernel
theorem dc_MD_extension_221 : decode prog_9_method_19_code 221 = .ok (.bipush 20, 2) := by decide +kernel
theorem dc_MD_extension_223 : decode prog_9_method_19_code 223 = .ok (.if_icmp .le 7, 3) := by decide +kernel
theorem dc_MD_extension_226 : decode prog_9_method_19_code 226 = .ok (.iconst 1, 1) := by decide +kernel
theorem dc_MD_extension_227 : decode prog_9_method_19_code 227 = .ok (.goto 4, 3) := by decide +kernel
theorem dc_MD_extension_230 : decode prog_9_method_19_code 230 = .ok (.iconst 0, 1) := by decide +kernel
theorem dc_MD_extension_231 : decode prog_9_method_19_code 231 = .ok (.putfield 34, 3) := by decide +kernel
theorem dc_MD_extension_234 : decode prog_9_method_19_code 234 = .ok (.aload_n 0, 1) := by decide +kernel
theorem dc_MD_extension_235 : decode prog_9_method_19_code 235 = .ok (.iload 5, 2) := by decide +kernel
theorem dc_MD_extension_237 : decode prog_9_method_19_code 237 = .ok (.putfield 38, 3) := by decide +kernel
theorem dc_MD_extension_240 : decode prog_9_method_19_code 240 = .ok (.aload_n 0, 1) := by decide +kernel
theorem dc_MD_extension_241 : decode prog_9_method_19_code 241 = .ok (.iload 5, 2) := by decide +kernel
theorem dc_MD_extension_243 : decode prog_9_method_19_code 243 = .ok (.invokevirtual 77, 3) := by decide +kernel
theorem dc_MD_extension_246 : decode prog_9_method_19_code 246 = .ok (.aload_n 0, 1) := by decide +kernel
theorem dc_MD_extension_247 : decode prog_9_method_19_code 247 = .ok (.iload_n 2, 1) := by decide +kernel
theorem dc_MD_extension_248 : decode prog_9_method_19_code 248 = .ok (.invokevirtual 77, 3) := by decide +kernel
theorem dc_MD_extension_251 : decode prog_9_method_19_code 251 = .ok (.return_, 1) := by decide +kernel
theorem dc_MD_key_0 : decode prog_9_method_20_code 0 = .ok (.aload_n 0, 1) := by decide +kernel
theorem dc_MD_key_1 : decode prog_9_method_20_code 1 = .ok (.bipush 48, 2) := by decide +kernel
theorem dc_MD_key_3 : decode prog_9_method_20_code 3 = .ok (.iload_n 1, 1) := by decide +kernel
theorem dc_MD_key_4 : decode prog_9_method_20_code 4 = .ok (.invokevirtual 45, 3) := by decide +kernel
theorem dc_MD_key_7 : decode prog_9_method_20_code 7 = .ok (.istore_n 2, 1) := by decide +kernel
theorem dc_MD_key_8 : decode prog_9_method_20_code 8 = .ok (.aload_n 0, 1) := by decide +kernel
theorem dc_MD_key_9 : decode prog_9_method_20_code 9 = .ok (.aload_n 0, 1) := by decide +kernel
theorem dc_MD_key_10 : decode prog_9_method_20_code 10 = .ok (.iload_n 2, 1) := by decide +kernel
theorem dc_MD_key_11 : decode prog_9_method_20_code 11 = .ok (.invokevirtual 70, 3) := by decide +kernel
theorem dc_MD_key_14 : decode prog_9_method_20_code 14 = .ok (.putfield 120, 3) := by decide +kernel
theorem dc_MD_key_17 : decode prog_9_method_20_code 17 = .ok (.aload_n 0, 1) := by decide +kernel
theorem dc_MD_key_18 : decode prog_9_method_20_code 18 = .ok (.aload_n 0, 1) := by decide +kernel
theorem dc_MD_key_19 : decode prog_9_method_20_code 19 = .ok (.iload_n 2, 1) := by decide +kernel
theorem dc_MD_key_20 : decode prog_9_method_20_code 20 = .ok (.invokevirtual 70, 3) := by decide +kernel
theorem dc_MD_key_23 : decode prog_9_method_20_code 23 = .ok (.putfield 123, 3) := by decide +kernel
theorem dc_MD_key_26 : decode prog_9_method_20_code 26 = .ok (.aload_n 0, 1) := by decide +kernel
theorem dc_MD_key_27 : decode prog_9_method_20_code 27 = .ok (.iload_n 2, 1) := by decide +kernel
theorem dc_MD_key_28 : decode prog_9_method_20_code 28 = .ok (.invokevirtual 77, 3) := by decide +kernel
theorem dc_MD_key_31 : decode prog_9_method_20_code 31 = .ok (.aload_n 0, 1) := by decide +kernel
theorem dc_MD_key_32 : decode prog_9_method_20_code 32 = .ok (.aload_n 0, 1) := by decide +kernel
theorem dc_MD_key_33 : decode prog_9_method_20_code 33 = .ok (.getfield 34, 3) := by decide +kernel
theorem dc_MD_key_36 : decode prog_9_method_20_code 36 = .ok (.ifCond .ne 29, 3) := by decide +kernel
theorem dc_MD_key_39 : decode prog_9_method_20_code 39 = .ok (.aload_n 0, 1) := by decide +kernel
theorem dc_MD_key_40 : decode prog_9_method_20_code 40 = .ok (.getfield 120, 3) := by decide +kernel
theorem dc_MD_key_43 : decode prog_9_method_20_code 43 = .ok (.iconst 2, 1) := by decide +kernel
theorem dc_MD_key_44 : decode prog_9_method_20_code 44 = .ok (.if_icmp .lt 21, 3) := by decide +kernel
theorem dc_MD_key_47 : decode prog_9_method_20_code 47 = .ok (.aload_n 0, 1) := by decide +kernel
theorem dc_MD_key_48 : decode prog_9_method_20_code 48 = .ok (.getfield 123, 3) := by decide +kernel
theorem dc_MD_key_51 : decode prog_9_method_20_code 51 = .ok (.iconst 1, 1) := by decide +kernel
end
section
/-! what each instruction is -/
theorem dc_MD_key_52 : decode prog_9_method_20_code 52 = .ok (.if_icmp .lt 13, 3) := by decide +kernel
theorem dc_MD_key_55 : decode prog_9_method_20_code 55 = .ok (.aload_n 0, 1) := by decide +kernel
theorem dc_MD_key_56 : decode prog_9_method_20_code 56 = .ok (.getfield 123, 3) := by decide +kernel
theorem dc_MD_key_59 : decode prog_9_method_20_code 59 = .ok (.sipush 1000, 3) := by decide +kernel
theorem dc_MD_key_62 : decode prog_9_method_20_code 62 = .ok (.if_icmp .le 7, 3) := by decide +kernel
theorem dc_MD_key_65 : decode prog_9_method_20_code 65 = .ok (.iconst 1, 1) := by decide +kernel
theorem dc_MD_key_66 : decode prog_9_method_20_code 66 = .ok (.goto 4, 3) := by decide +kernel
theorem dc_MD_key_69 : decode prog_9_method_20_code 69 = .ok (.iconst 0, 1) := by decide +kernel
theorem dc_MD_key_70 : decode prog_9_method_20_code 70 = .ok (.putfield 34, 3) := by decide +kernel
theorem dc_MD_key_73 : decode prog_9_method_20_code 73 = .ok (.return_, 1) := by decide +kernel
theorem dc_MD_more_0 : decode prog_9_method_21_code 0 = .ok (.aload_n 0, 1) := by decide +kernel
theorem dc_MD_more_1 : decode prog_9_method_21_code 1 = .ok (.sipush 163, 3) := by decide +kernel
theorem dc_MD_more_4 : decode prog_9_method_21_code 4 = .ok (.iload_n 1, 1) := by decide +kernel
theorem dc_MD_more_5 : decode prog_9_method_21_code 5 = .ok (.invokevirtual 45, 3) := by decide +kernel
theorem dc_MD_more_8 : decode prog_9_method_21_code 8 = .ok (.istore_n 2, 1) := by decide +kernel
theorem dc_MD_more_9 : decode prog_9_method_21_code 9 = .ok (.aload_n 0, 1) := by decide +kernel
theorem dc_MD_more_10 : decode prog_9_method_21_code 10 = .ok (.bipush 48, 2) := by decide +kernel
theorem dc_MD_more_12 : decode prog_9_method_21_code 12 = .ok (.iload_n 2, 1) := by decide +kernel
theorem dc_MD_more_13 : decode prog_9_method_21_code 13 = .ok (.invokevirtual 45, 3) := by decide +kernel
theorem dc_MD_more_16 : decode prog_9_method_21_code 16 = .ok (.istore_n 3, 1) := by decide +kernel
theorem dc_MD_more_17 : decode prog_9_method_21_code 17 = .ok (.aload_n 0, 1) := by decide +kernel
theorem dc_MD_more_18 : decode prog_9_method_21_code 18 = .ok (.getfield 34, 3) := by decide +kernel
theorem dc_MD_more_21 : decode prog_9_method_21_code 21 = .ok (.ifCond .ne 19, 3) := by decide +kernel
theorem dc_MD_more_24 : decode prog_9_method_21_code 24 = .ok (.aload_n 0, 1) := by decide +kernel
theorem dc_MD_more_25 : decode prog_9_method_21_code 25 = .ok (.getfield 38, 3) := by decide +kernel
theorem dc_MD_more_28 : decode prog_9_method_21_code 28 = .ok (.iload_n 3, 1) := by decide +kernel
theorem dc_MD_more_29 : decode prog_9_method_21_code 29 = .ok (.if_icmp .ge 11, 3) := by decide +kernel
theorem dc_MD_more_32 : decode prog_9_method_21_code 32 = .ok (.aload_n 0, 1) := by decide +kernel
theorem dc_MD_more_33 : decode prog_9_method_21_code 33 = .ok (.iload_n 3, 1) := by decide +kernel
theorem dc_MD_more_34 : decode prog_9_method_21_code 34 = .ok (.invokevirtual 126, 3) := by decide +kernel
theorem dc_MD_more_37 : decode prog_9_method_21_code 37 = .ok (.goto (-20), 3) := by decide +kernel
theorem dc_MD_more_40 : decode prog_9_method_21_code 40 = .ok (.aload_n 0, 1) := by decide +kernel
theorem dc_MD_more_41 : decode prog_9_method_21_code 41 = .ok (.aload_n 0, 1) := by decide +kernel
theorem dc_MD_more_42 : decode prog_9_method_21_code 42 = .ok (.getfield 34, 3) := by decide +kernel
theorem dc_MD_more_45 : decode prog_9_method_21_code 45 = .ok (.ifCond .ne 10, 3) := by decide +kernel
theorem dc_MD_more_48 : decode prog_9_method_21_code 48 = .ok (.aload_n 0, 1) := by decide +kernel
theorem dc_MD_more_49 : decode prog_9_method_21_code 49 = .ok (.getfield 105, 3) := by decide +kernel
theorem dc_MD_more_52 : decode prog_9_method_21_code 52 = .ok (.ifCond .ne 7, 3) := by decide +kernel
theorem dc_MD_more_55 : decode prog_9_method_21_code 55 = .ok (.iconst 1, 1) := by decide +kernel
theorem dc_MD_more_56 : decode prog_9_method_21_code 56 = .ok (.goto 4, 3) := by decide +kernel
theorem dc_MD_more_59 : decode prog_9_method_21_code 59 = .ok (.iconst 0, 1) := by decide +kernel
theorem dc_MD_more_60 : decode prog_9_method_21_code 60 = .ok (.putfield 34, 3) := by decide +kernel
theorem dc_MD_more_63 : decode prog_9_method_21_code 63 = .ok (.aload_n 0, 1) := by decide +kernel
theorem dc_MD_more_64 : decode prog_9_method_21_code 64 = .ok (.iload_n 3, 1) := by decide +kernel
theorem dc_MD_more_65 : decode prog_9_method_21_code 65 = .ok (.invokevirtual 77, 3) := by decide +kernel
theorem dc_MD_more_68 : decode prog_9_method_21_code 68 = .ok (.aload_n 0, 1) := by decide +kernel
theorem dc_MD_more_69 : decode prog_9_method_21_code 69 = .ok (.iload_n 2, 1) := by decide +kernel
theorem dc_MD_more_70 : decode prog_9_method_21_code 70 = .ok (.invokevirtual 77, 3) := by decide +kernel
theorem dc_MD_more_73 : decode prog_9_method_21_code 73 = .ok (.return_, 1) := by decide +kernel
theorem dc_MD_body_0 : decode prog_9_method_22_code 0 = .ok (.aload_n 0, 1) := by decide +kernel
theorem dc_MD_body_1 : decode prog_9_method_22_code 1 = .ok (.aload_n 0, 1) := by decide +kernel
theorem dc_MD_body_2 : decode prog_9_method_22_code 2 = .ok (.getfield 38, 3) := by decide +kernel
theorem dc_MD_body_5 : decode prog_9_method_22_code 5 = .ok (.putfield 129, 3) := by decide +kernel
theorem dc_MD_body_8 : decode prog_9_method_22_code 8 = .ok (.aload_n 0, 1) := by decide +kernel
theorem dc_MD_body_9 : decode prog_9_method_22_code 9 = .ok (.bipush 48, 2) := by decide +kernel
theorem dc_MD_body_11 : decode prog_9_method_22_code 11 = .ok (.iload_n 1, 1) := by decide +kernel
theorem dc_MD_body_12 : decode prog_9_method_22_code 12 = .ok (.invokevirtual 45, 3) := by decide +kernel
theorem dc_MD_body_15 : decode prog_9_method_22_code 15 = .ok (.istore_n 2, 1) := by decide +kernel
theorem dc_MD_body_16 : decode prog_9_method_22_code 16 = .ok (.aload_n 0, 1) := by decide +kernel
theorem dc_MD_body_17 : decode prog_9_method_22_code 17 = .ok (.aload_n 0, 1) := by decide +kernel
theorem dc_MD_body_18 : decode prog_9_method_22_code 18 = .ok (.iload_n 2, 1) := by decide +kernel
theorem dc_MD_body_19 : decode prog_9_method_22_code 19 = .ok (.invokevirtual 70, 3) := by decide +kernel
theorem dc_MD_body_22 : decode prog_9_method_22_code 22 = .ok (.putfield 132, 3) := by decide +kernel
theorem dc_MD_body_25 : decode prog_9_method_22_code 25 = .ok (.aload_n 0, 1) := by decide +kernel
theorem dc_MD_body_26 : decode prog_9_method_22_code 26 = .ok (.iload_n 2, 1) := by decide +kernel
theorem dc_MD_body_27 : decode prog_9_method_22_code 27 = .ok (.invokevirtual 81, 3) := by decide +kernel
theorem dc_MD_body_30 : decode prog_9_method_22_code 30 = .ok (.aload_n 0, 1) := by decide +kernel
theorem dc_MD_body_31 : decode prog_9_method_22_code 31 = .ok (.aload_n 0, 1) := by decide +kernel
theorem dc_MD_body_32 : decode prog_9_method_22_code 32 = .ok (.getfield 48, 3) := by decide +kernel
theorem dc_MD_body_35 : decode prog_9_method_22_code 35 = .ok (.putfield 135, 3) := by decide +kernel
theorem dc_MD_body_38 : decode prog_9_method_22_code 38 = .ok (.aload_n 0, 1) := by decide +kernel
theorem dc_MD_body_39 : decode prog_9_method_22_code 39 = .ok (.aload_n 0, 1) := by decide +kernel
theorem dc_MD_body_40 : decode prog_9_method_22_code 40 = .ok (.getfield 51, 3) := by decide +kernel
theorem dc_MD_body_43 : decode prog_9_method_22_code 43 = .ok (.putfield 138, 3) := by decide +kernel
theorem dc_MD_body_46 : decode prog_9_method_22_code 46 = .ok (.aload_n 0, 1) := by decide +kernel
theorem dc_MD_body_47 : decode prog_9_method_22_code 47 = .ok (.aload_n 0, 1) := by decide +kernel
theorem dc_MD_body_48 : decode prog_9_method_22_code 48 = .ok (.getfield 54, 3) := by decide +kernel
theorem dc_MD_body_51 : decode prog_9_method_22_code 51 = .ok (.putfield 141, 3) := by decide +kernel
theorem dc_MD_body_54 : decode prog_9_method_22_code 54 = .ok (.aload_n 0, 1) := by decide +kernel
theorem dc_MD_body_55 : decode prog_9_method_22_code 55 = .ok (.bipush 48, 2) := by decide +kernel
theorem dc_MD_body_57 : decode prog_9_method_22_code 57 = .ok (.iload_n 2, 1) := by decide +kernel
theorem dc_MD_body_58 : decode prog_9_method_22_code 58 = .ok (.invokevirtual 45, 3) := by decide +kernel
theorem dc_MD_body_61 : decode prog_9_method_22_code 61 = .ok (.istore_n 3, 1) := by decide +kernel
theorem dc_MD_body_62 : decode prog_9_method_22_code 62 = .ok (.aload_n 0, 1) := by decide +kernel
theorem dc_MD_body_63 : decode prog_9_method_22_code 63 = .ok (.aload_n 0, 1) := by decide +kernel
theorem dc_MD_body_64 : decode prog_9_method_22_code 64 = .ok (.iload_n 3, 1) := by decide +kernel
theorem dc_MD_body_65 : decode prog_9_method_22_code 65 = .ok (.invokevirtual 70, 3) := by decide +kernel
theorem dc_MD_body_68 : decode prog_9_method_22_code 68 = .ok (.putfield 144, 3) := by decide +kernel
theorem dc_MD_body_71 : decode prog_9_method_22_code 71 = .ok (.aload_n 0, 1) := by decide +kernel
theorem dc_MD_body_72 : decode prog_9_method_22_code 72 = .ok (.aload_n 0, 1) := by decide +kernel
theorem dc_MD_body_73 : decode prog_9_method_22_code 73 = .ok (.iload_n 3, 1) := by decide +kernel
theorem dc_MD_body_74 : decode prog_9_method_22_code 74 = .ok (.invokevirtual 70, 3) := by decide +kernel
theorem dc_MD_body_77 : decode prog_9_method_22_code 77 = .ok (.putfield 147, 3) := by decide +kernel
theorem dc_MD_body_80 : decode prog_9_method_22_code 80 = .ok (.aload_n 0, 1) := by decide +kernel
theorem dc_MD_body_81 : decode prog_9_method_22_code 81 = .ok (.iload_n 3, 1) := by decide +kernel
theorem dc_MD_body_82 : decode prog_9_method_22_code 82 = .ok (.invokevirtual 77, 3) := by decide +kernel
theorem dc_MD_body_85 : decode prog_9_method_22_code 85 = .ok (.aload_n 0, 1) := by decide +kernel
theorem dc_MD_body_86 : decode prog_9_method_22_code 86 = .ok (.iload_n 2, 1) := by decide +kernel
theorem dc_MD_body_87 : decode prog_9_method_22_code 87 = .ok (.invokevirtual 81, 3) := by decide +kernel
theorem dc_MD_body_90 : decode prog_9_method_22_code 90 = .ok (.aload_n 0, 1) := by decide +kernel
theorem dc_MD_body_91 : decode prog_9_method_22_code 91 = .ok (.aload_n 0, 1) := by decide +kernel
theorem dc_MD_body_92 : decode prog_9_method_22_code 92 = .ok (.getfield 48, 3) := by decide +kernel
theorem dc_MD_body_95 : decode prog_9_method_22_code 95 = .ok (.putfield 150, 3) := by decide +kernel
theorem dc_MD_body_98 : decode prog_9_method_22_code 98 = .ok (.aload_n 0, 1) := by decide +kernel
theorem dc_MD_body_99 : decode prog_9_method_22_code 99 = .ok (.aload_n 0, 1) := by decide +kernel
theorem dc_MD_body_100 : decode prog_9_method_22_code 100 = .ok (.getfield 51, 3) := by decide +kernel
theorem dc_MD_body_103 : decode prog_9_method_22_code 103 = .ok (.putfield 153, 3) := by decide +kernel
theorem dc_MD_body_106 : decode prog_9_method_22_code 106 = .ok (.aload_n 0, 1) := by decide +kernel
theorem dc_MD_body_107 : decode prog_9_method_22_code 107 = .ok (.aload_n 0, 1) := by decide +kernel
theorem dc_MD_body_108 : decode prog_9_method_22_code 108 = .ok (.getfield 54, 3) := by decide +kernel
theorem dc_MD_body_111 : decode prog_9_method_22_code 111 = .ok (.putfield 156, 3) := by decide +kernel
theorem dc_MD_body_114 : decode prog_9_method_22_code 114 = .ok (.aload_n 0, 1) := by decide +kernel
theorem dc_MD_body_115 : decode prog_9_method_22_code 115 = .ok (.iload_n 2, 1) := by decide +kernel
theorem dc_MD_body_116 : decode prog_9_method_22_code 116 = .ok (.invokevirtual 159, 3) := by decide +kernel
theorem dc_MD_body_119 : decode prog_9_method_22_code 119 = .ok (.aload_n 0, 1) := by decide +kernel
theorem dc_MD_body_120 : decode prog_9_method_22_code 120 = .ok (.getfield 34, 3) := by decide +kernel
theorem dc_MD_body_123 : decode prog_9_method_22_code 123 = .ok (.ifCond .ne 16, 3) := by decide +kernel
theorem dc_MD_body_126 : decode prog_9_method_22_code 126 = .ok (.aload_n 0, 1) := by decide +kernel
theorem dc_MD_body_127 : decode prog_9_method_22_code 127 = .ok (.getfield 38, 3) := by decide +kernel
theorem dc_MD_body_130 : decode prog_9_method_22_code 130 = .ok (.iload_n 2, 1) := by decide +kernel
theorem dc_MD_body_131 : decode prog_9_method_22_code 131 = .ok (.if_icmp .ge 8, 3) := by decide +kernel
theorem dc_MD_body_134 : decode prog_9_method_22_code 134 = .ok (.aload_n 0, 1) := by decide +kernel
theorem dc_MD_body_135 : decode prog_9_method_22_code 135 = .ok (.iload_n 2, 1) := by decide +kernel
theorem dc_MD_body_136 : decode prog_9_method_22_code 136 = .ok (.invokevirtual 162, 3) := by decide +kernel
theorem dc_MD_body_139 : decode prog_9_method_22_code 139 = .ok (.aload_n 0, 1) := by decide +kernel
theorem dc_MD_body_140 : decode prog_9_method_22_code 140 = .ok (.iload_n 2, 1) := by decide +kernel
theorem dc_MD_body_141 : decode prog_9_method_22_code 141 = .ok (.invokevirtual 77, 3) := by decide +kernel
theorem dc_MD_body_144 : decode prog_9_method_22_code 144 = .ok (.aload_n 0, 1) := by decide +kernel
theorem dc_MD_body_145 : decode prog_9_method_22_code 145 = .ok (.aload_n 0, 1) := by decide +kernel
theorem dc_MD_body_146 : decode prog_9_method_22_code 146 = .ok (.getfield 38, 3) := by decide +kernel
theorem dc_MD_body_149 : decode prog_9_method_22_code 149 = .ok (.putfield 165, 3) := by decide +kernel
theorem dc_MD_body_152 : decode prog_9_method_22_code 152 = .ok (.return_, 1) := by decide +kernel
theorem dc_MD_read_0 : decode prog_9_method_23_code 0 = .ok (.aload_n 0, 1) := by decide +kernel
theorem dc_MD_read_1 : decode prog_9_method_23_code 1 = .ok (.iload_n 1, 1) := by decide +kernel
theorem dc_MD_read_2 : decode prog_9_method_23_code 2 = .ok (.putfield 38, 3) := by decide +kernel
theorem dc_MD_read_5 : decode prog_9_method_23_code 5 = .ok (.aload_n 0, 1) := by decide +kernel
theorem dc_MD_read_6 : decode prog_9_method_23_code 6 = .ok (.iconst 0, 1) := by decide +kernel
theorem dc_MD_read_7 : decode prog_9_method_23_code 7 = .ok (.putfield 34, 3) := by decide +kernel
theorem dc_MD_read_10 : decode prog_9_method_23_code 10 = .ok (.aload_n 0, 1) := by decide +kernel
theorem dc_MD_read_11 : decode prog_9_method_23_code 11 = .ok (.iconst 0, 1) := by decide +kernel
theorem dc_MD_read_12 : decode prog_9_method_23_code 12 = .ok (.putfield 105, 3) := by decide +kernel
theorem dc_MD_read_15 : decode prog_9_method_23_code 15 = .ok (.aload_n 0, 1) := by decide +kernel
theorem dc_MD_read_16 : decode prog_9_method_23_code 16 = .ok (.iconst 0, 1) := by decide +kernel
theorem dc_MD_read_17 : decode prog_9_method_23_code 17 = .ok (.putfield 108, 3) := by decide +kernel
theorem dc_MD_read_20 : decode prog_9_method_23_code 20 = .ok (.aload_n 0, 1) := by decide +kernel
theorem dc_MD_read_21 : decode prog_9_method_23_code 21 = .ok (.iconst 0, 1) := by decide +kernel
theorem dc_MD_read_22 : decode prog_9_method_23_code 22 = .ok (.putfield 60, 3) := by decide +kernel
theorem dc_MD_read_25 : decode prog_9_method_23_code 25 = .ok (.aload_n 0, 1) := by decide +kernel
theorem dc_MD_read_26 : decode prog_9_method_23_code 26 = .ok (.iconst 0, 1) := by decide +kernel
theorem dc_MD_read_27 : decode prog_9_method_23_code 27 = .ok (.putfield 67, 3) := by decide +kernel
theorem dc_MD_read_30 : decode prog_9_method_23_code 30 = .ok (.aload_n 0, 1) := by decide +kernel
theorem dc_MD_read_31 : decode prog_9_method_23_code 31 = .ok (.iconst (-1), 1) := by decide +kernel
theorem dc_MD_read_32 : decode prog_9_method_23_code 32 = .ok (.putfield 74, 3) := by decide +kernel
theorem dc_MD_read_35 : decode prog_9_method_23_code 35 = .ok (.aload_n 0, 1) := by decide +kernel
theorem dc_MD_read_36 : decode prog_9_method_23_code 36 = .ok (.iconst (-1), 1) := by decide +kernel
theorem dc_MD_read_37 : decode prog_9_method_23_code 37 = .ok (.putfield 57, 3) := by decide +kernel
theorem dc_MD_read_40 : decode prog_9_method_23_code 40 = .ok (.aload_n 0, 1) := by decide +kernel
theorem dc_MD_read_41 : decode prog_9_method_23_code 41 = .ok (.iconst 0, 1) := by decide +kernel
theorem dc_MD_read_42 : decode prog_9_method_23_code 42 = .ok (.putfield 90, 3) := by decide +kernel
theorem dc_MD_read_45 : decode prog_9_method_23_code 45 = .ok (.aload_n 0, 1) := by decide +kernel
theorem dc_MD_read_46 : decode prog_9_method_23_code 46 = .ok (.iconst 0, 1) := by decide +kernel
theorem dc_MD_read_47 : decode prog_9_method_23_code 47 = .ok (.putfield 99, 3) := by decide +kernel
theorem dc_MD_read_50 : decode prog_9_method_23_code 50 = .ok (.aload_n 0, 1) := by decide +kernel
theorem dc_MD_read_51 : decode prog_9_method_23_code 51 = .ok (.bipush 48, 2) := by decide +kernel
theorem dc_MD_read_53 : decode prog_9_method_23_code 53 = .ok (.iload_n 1, 1) := by decide +kernel
theorem dc_MD_read_54 : decode prog_9_method_23_code 54 = .ok (.iload_n 2, 1) := by decide +kernel
theorem dc_MD_read_55 : decode prog_9_method_23_code 55 = .ok (.iadd, 1) := by decide +kernel
theorem dc_MD_read_56 : decode prog_9_method_23_code 56 = .ok (.invokevirtual 45, 3) := by decide +kernel
theorem dc_MD_read_59 : decode prog_9_method_23_code 59 = .ok (.istore_n 3, 1) := by decide +kernel
theorem dc_MD_read_60 : decode prog_9_method_23_code 60 = .ok (.aload_n 0, 1) := by decide +kernel
theorem dc_MD_read_61 : decode prog_9_method_23_code 61 = .ok (.iload_n 3, 1) := by decide +kernel
theorem dc_MD_read_62 : decode prog_9_method_23_code 62 = .ok (.invokevirtual 168, 3) := by decide +kernel
theorem dc_MD_read_65 : decode prog_9_method_23_code 65 = .ok (.aload_n 0, 1) := by decide +kernel
theorem dc_MD_read_66 : decode prog_9_method_23_code 66 = .ok (.aload_n 0, 1) := by decide +kernel
theorem dc_MD_read_67 : decode prog_9_method_23_code 67 = .ok (.iload_n 3, 1) := by decide +kernel
theorem dc_MD_read_68 : decode prog_9_method_23_code 68 = .ok (.invokevirtual 70, 3) := by decide +kernel
theorem dc_MD_read_71 : decode prog_9_method_23_code 71 = .ok (.putfield 171, 3) := by decide +kernel
theorem dc_MD_read_74 : decode prog_9_method_23_code 74 = .ok (.aload_n 0, 1) := by decide +kernel
theorem dc_MD_read_75 : decode prog_9_method_23_code 75 = .ok (.iload_n 3, 1) := by decide +kernel
theorem dc_MD_read_76 : decode prog_9_method_23_code 76 = .ok (.invokevirtual 77, 3) := by decide +kernel
theorem dc_MD_read_79 : decode prog_9_method_23_code 79 = .ok (.aload_n 0, 1) := by decide +kernel
theorem dc_MD_read_80 : decode prog_9_method_23_code 80 = .ok (.iload_n 1, 1) := by decide +kernel
theorem dc_MD_read_81 : decode prog_9_method_23_code 81 = .ok (.iload_n 2, 1) := by decide +kernel
theorem dc_MD_read_82 : decode prog_9_method_23_code 82 = .ok (.iadd, 1) := by decide +kernel
theorem dc_MD_read_83 : decode prog_9_method_23_code 83 = .ok (.invokevirtual 77, 3) := by decide +kernel
theorem dc_MD_read_86 : decode prog_9_method_23_code 86 = .ok (.aload_n 0, 1) := by decide +kernel
theorem dc_MD_read_87 : decode prog_9_method_23_code 87 = .ok (.getfield 34, 3) := by decide +kernel
theorem dc_MD_read_90 : decode prog_9_method_23_code 90 = .ok (.ifCond .ne 7, 3) := by decide +kernel
theorem dc_MD_read_93 : decode prog_9_method_23_code 93 = .ok (.iconst 1, 1) := by decide +kernel
theorem dc_MD_read_94 : decode prog_9_method_23_code 94 = .ok (.goto 4, 3) := by decide +kernel
theorem dc_MD_read_97 : decode prog_9_method_23_code 97 = .ok (.iconst 0, 1) := by decide +kernel
theorem dc_MD_read_98 : decode prog_9_method_23_code 98 = .ok (.ireturn, 1) := by decide +kernel
theorem dc_MD_kept_0 : decode prog_9_method_24_code 0 = .ok (.iload_n 1, 1) := by decide +kernel
theorem dc_MD_kept_1 : decode prog_9_method_24_code 1 = .ok (.ifCond .lt 15, 3) := by decide +kernel
theorem dc_MD_kept_4 : decode prog_9_method_24_code 4 = .ok (.iload_n 1, 1) := by decide +kernel
theorem dc_MD_kept_5 : decode prog_9_method_24_code 5 = .ok (.aload_n 0, 1) := by decide +kernel
theorem dc_MD_kept_6 : decode prog_9_method_24_code 6 = .ok (.getfield 174, 3) := by decide +kernel
theorem dc_MD_kept_9 : decode prog_9_method_24_code 9 = .ok (.if_icmp .ge 7, 3) := by decide +kernel
theorem dc_MD_kept_12 : decode prog_9_method_24_code 12 = .ok (.iconst 1, 1) := by decide +kernel
theorem dc_MD_kept_13 : decode prog_9_method_24_code 13 = .ok (.goto 4, 3) := by decide +kernel
theorem dc_MD_kept_16 : decode prog_9_method_24_code 16 = .ok (.iconst 0, 1) := by decide +kernel
theorem dc_MD_kept_17 : decode prog_9_method_24_code 17 = .ok (.ireturn, 1) := by decide +kernel
theorem dc_MD_fetch_0 : decode prog_9_method_25_code 0 = .ok (.aload_n 0, 1) := by decide +kernel
theorem dc_MD_fetch_1 : decode prog_9_method_25_code 1 = .ok (.iload_n 1, 1) := by decide +kernel
theorem dc_MD_fetch_2 : decode prog_9_method_25_code 2 = .ok (.invokevirtual 177, 3) := by decide +kernel
theorem dc_MD_fetch_5 : decode prog_9_method_25_code 5 = .ok (.ifCond .eq 25, 3) := by decide +kernel
theorem dc_MD_fetch_8 : decode prog_9_method_25_code 8 = .ok (.aload_n 0, 1) := by decide +kernel
theorem dc_MD_fetch_9 : decode prog_9_method_25_code 9 = .ok (.sipush 160, 3) := by decide +kernel
theorem dc_MD_fetch_12 : decode prog_9_method_25_code 12 = .ok (.iload_n 1, 1) := by decide +kernel
theorem dc_MD_fetch_13 : decode prog_9_method_25_code 13 = .ok (.imul, 1) := by decide +kernel
theorem dc_MD_fetch_14 : decode prog_9_method_25_code 14 = .ok (.aload_n 0, 1) := by decide +kernel
theorem dc_MD_fetch_15 : decode prog_9_method_25_code 15 = .ok (.getfield 13, 3) := by decide +kernel
theorem dc_MD_fetch_18 : decode prog_9_method_25_code 18 = .ok (.iload_n 1, 1) := by decide +kernel
theorem dc_MD_fetch_19 : decode prog_9_method_25_code 19 = .ok (.iaload, 1) := by decide +kernel
theorem dc_MD_fetch_20 : decode prog_9_method_25_code 20 = .ok (.invokevirtual 180, 3) := by decide +kernel
theorem dc_MD_fetch_23 : decode prog_9_method_25_code 23 = .ok (.ifCond .eq 7, 3) := by decide +kernel
theorem dc_MD_fetch_26 : decode prog_9_method_25_code 26 = .ok (.iconst 1, 1) := by decide +kernel
theorem dc_MD_fetch_27 : decode prog_9_method_25_code 27 = .ok (.goto 4, 3) := by decide +kernel
theorem dc_MD_fetch_30 : decode prog_9_method_25_code 30 = .ok (.iconst 0, 1) := by decide +kernel
theorem dc_MD_fetch_31 : decode prog_9_method_25_code 31 = .ok (.ireturn, 1) := by decide +kernel
theorem dc_MD_accept_0 : decode prog_9_method_26_code 0 = .ok (.aload_n 0, 1) := by decide +kernel
theorem dc_MD_accept_1 : decode prog_9_method_26_code 1 = .ok (.sipush 1280, 3) := by decide +kernel
theorem dc_MD_accept_4 : decode prog_9_method_26_code 4 = .ok (.aload_n 0, 1) := by decide +kernel
theorem dc_MD_accept_5 : decode prog_9_method_26_code 5 = .ok (.getfield 22, 3) := by decide +kernel
theorem dc_MD_accept_8 : decode prog_9_method_26_code 8 = .ok (.invokevirtual 180, 3) := by decide +kernel
theorem dc_MD_accept_11 : decode prog_9_method_26_code 11 = .ok (.ifCond .ne 5, 3) := by decide +kernel
theorem dc_MD_accept_14 : decode prog_9_method_26_code 14 = .ok (.iconst (-1), 1) := by decide +kernel
theorem dc_MD_accept_15 : decode prog_9_method_26_code 15 = .ok (.ireturn, 1) := by decide +kernel
theorem dc_MD_accept_16 : decode prog_9_method_26_code 16 = .ok (.aload_n 0, 1) := by decide +kernel
theorem dc_MD_accept_17 : decode prog_9_method_26_code 17 = .ok (.getfield 174, 3) := by decide +kernel
theorem dc_MD_accept_20 : decode prog_9_method_26_code 20 = .ok (.bipush 8, 2) := by decide +kernel
theorem dc_MD_accept_22 : decode prog_9_method_26_code 22 = .ok (.if_icmp .ne 6, 3) := by decide +kernel
theorem dc_MD_accept_25 : decode prog_9_method_26_code 25 = .ok (.bipush (-2), 2) := by decide +kernel
theorem dc_MD_accept_27 : decode prog_9_method_26_code 27 = .ok (.ireturn, 1) := by decide +kernel
theorem dc_MD_accept_28 : decode prog_9_method_26_code 28 = .ok (.iconst 0, 1) := by decide +kernel
theorem dc_MD_accept_29 : decode prog_9_method_26_code 29 = .ok (.istore_n 1, 1) := by decide +kernel
theorem dc_MD_accept_30 : decode prog_9_method_26_code 30 = .ok (.iload_n 1, 1) := by decide +kernel
theorem dc_MD_accept_31 : decode prog_9_method_26_code 31 = .ok (.aload_n 0, 1) := by decide +kernel
theorem dc_MD_accept_32 : decode prog_9_method_26_code 32 = .ok (.getfield 22, 3) := by decide +kernel
theorem dc_MD_accept_35 : decode prog_9_method_26_code 35 = .ok (.if_icmp .ge 34, 3) := by decide +kernel
theorem dc_MD_accept_38 : decode prog_9_method_26_code 38 = .ok (.aload_n 0, 1) := by decide +kernel
theorem dc_MD_accept_39 : decode prog_9_method_26_code 39 = .ok (.getfield 7, 3) := by decide +kernel
theorem dc_MD_accept_42 : decode prog_9_method_26_code 42 = .ok (.sipush 160, 3) := by decide +kernel
theorem dc_MD_accept_45 : decode prog_9_method_26_code 45 = .ok (.aload_n 0, 1) := by decide +kernel
theorem dc_MD_accept_46 : decode prog_9_method_26_code 46 = .ok (.getfield 174, 3) := by decide +kernel
theorem dc_MD_accept_49 : decode prog_9_method_26_code 49 = .ok (.imul, 1) := by decide +kernel
theorem dc_MD_accept_50 : decode prog_9_method_26_code 50 = .ok (.iload_n 1, 1) := by decide +kernel
theorem dc_MD_accept_51 : decode prog_9_method_26_code 51 = .ok (.iadd, 1) := by decide +kernel
theorem dc_MD_accept_52 : decode prog_9_method_26_code 52 = .ok (.aload_n 0, 1) := by decide +kernel
theorem dc_MD_accept_53 : decode prog_9_method_26_code 53 = .ok (.getfield 7, 3) := by decide +kernel
theorem dc_MD_accept_56 : decode prog_9_method_26_code 56 = .ok (.sipush 1280, 3) := by decide +kernel
theorem dc_MD_accept_59 : decode prog_9_method_26_code 59 = .ok (.iload_n 1, 1) := by decide +kernel
theorem dc_MD_accept_60 : decode prog_9_method_26_code 60 = .ok (.iadd, 1) := by decide +kernel
theorem dc_MD_accept_61 : decode prog_9_method_26_code 61 = .ok (.iaload, 1) := by decide +kernel
theorem dc_MD_accept_62 : decode prog_9_method_26_code 62 = .ok (.iastore, 1) := by decide +kernel
theorem dc_MD_accept_63 : decode prog_9_method_26_code 63 = .ok (.iinc 1 1, 3) := by decide +kernel
theorem dc_MD_accept_66 : decode prog_9_method_26_code 66 = .ok (.goto (-36), 3) := by decide +kernel
theorem dc_MD_accept_69 : decode prog_9_method_26_code 69 = .ok (.aload_n 0, 1) := by decide +kernel
theorem dc_MD_accept_70 : decode prog_9_method_26_code 70 = .ok (.getfield 13, 3) := by decide +kernel
theorem dc_MD_accept_73 : decode prog_9_method_26_code 73 = .ok (.aload_n 0, 1) := by decide +kernel
theorem dc_MD_accept_74 : decode prog_9_method_26_code 74 = .ok (.getfield 174, 3) := by decide +kernel
theorem dc_MD_accept_77 : decode prog_9_method_26_code 77 = .ok (.aload_n 0, 1) := by decide +kernel
theorem dc_MD_accept_78 : decode prog_9_method_26_code 78 = .ok (.getfield 22, 3) := by decide +kernel
theorem dc_MD_accept_81 : decode prog_9_method_26_code 81 = .ok (.iastore, 1) := by decide +kernel
theorem dc_MD_accept_82 : decode prog_9_method_26_code 82 = .ok (.aload_n 0, 1) := by decide +kernel
theorem dc_MD_accept_83 : decode prog_9_method_26_code 83 = .ok (.aload_n 0, 1) := by decide +kernel
theorem dc_MD_accept_84 : decode prog_9_method_26_code 84 = .ok (.getfield 174, 3) := by decide +kernel
theorem dc_MD_accept_87 : decode prog_9_method_26_code 87 = .ok (.iconst 1, 1) := by decide +kernel
theorem dc_MD_accept_88 : decode prog_9_method_26_code 88 = .ok (.iadd, 1) := by decide +kernel
theorem dc_MD_accept_89 : decode prog_9_method_26_code 89 = .ok (.putfield 174, 3) := by decide +kernel
theorem dc_MD_accept_92 : decode prog_9_method_26_code 92 = .ok (.aload_n 0, 1) := by decide +kernel
theorem dc_MD_accept_93 : decode prog_9_method_26_code 93 = .ok (.getfield 174, 3) := by decide +kernel
theorem dc_MD_accept_96 : decode prog_9_method_26_code 96 = .ok (.iconst 1, 1) := by decide +kernel
theorem dc_MD_accept_97 : decode prog_9_method_26_code 97 = .ok (.isub, 1) := by decide +kernel
theorem dc_MD_accept_98 : decode prog_9_method_26_code 98 = .ok (.ireturn, 1) := by decide +kernel
theorem dc_MD_count_0 : decode prog_9_method_27_code 0 = .ok (.aload_n 0, 1) := by decide +kernel
theorem dc_MD_count_1 : decode prog_9_method_27_code 1 = .ok (.getfield 174, 3) := by decide +kernel
theorem dc_MD_count_4 : decode prog_9_method_27_code 4 = .ok (.ireturn, 1) := by decide +kernel
theorem dc_MD_field_0 : decode prog_9_method_28_code 0 = .ok (.aload_n 0, 1) := by decide +kernel
theorem dc_MD_field_1 : decode prog_9_method_28_code 1 = .ok (.iload_n 1, 1) := by decide +kernel
theorem dc_MD_field_2 : decode prog_9_method_28_code 2 = .ok (.invokevirtual 183, 3) := by decide +kernel
theorem dc_MD_field_5 : decode prog_9_method_28_code 5 = .ok (.ifCond .ne 5, 3) := by decide +kernel
theorem dc_MD_field_8 : decode prog_9_method_28_code 8 = .ok (.iconst (-1), 1) := by decide +kernel
theorem dc_MD_field_9 : decode prog_9_method_28_code 9 = .ok (.ireturn, 1) := by decide +kernel
theorem dc_MD_field_10 : decode prog_9_method_28_code 10 = .ok (.iload_n 2, 1) := by decide +kernel
theorem dc_MD_field_11 : decode prog_9_method_28_code 11 = .ok (.tableswitch 164 0 14 #[73, 78, 83, 88, 93, 98, 103, 116, 129, 134, 139, 144, 149, 154, 159], 73) := by decide +kernel
theorem dc_MD_field_84 : decode prog_9_method_28_code 84 = .ok (.aload_n 0, 1) := by decide +kernel
theorem dc_MD_field_85 : decode prog_9_method_28_code 85 = .ok (.getfield 132, 3) := by decide +kernel
theorem dc_MD_field_88 : decode prog_9_method_28_code 88 = .ok (.ireturn, 1) := by decide +kernel
theorem dc_MD_field_89 : decode prog_9_method_28_code 89 = .ok (.aload_n 0, 1) := by decide +kernel
theorem dc_MD_field_90 : decode prog_9_method_28_code 90 = .ok (.getfield 144, 3) := by decide +kernel
theorem dc_MD_field_93 : decode prog_9_method_28_code 93 = .ok (.ireturn, 1) := by decide +kernel
theorem dc_MD_field_94 : decode prog_9_method_28_code 94 = .ok (.aload_n 0, 1) := by decide +kernel
theorem dc_MD_field_95 : decode prog_9_method_28_code 95 = .ok (.getfield 147, 3) := by decide +kernel
theorem dc_MD_field_98 : decode prog_9_method_28_code 98 = .ok (.ireturn, 1) := by decide +kernel
theorem dc_MD_field_99 : decode prog_9_method_28_code 99 = .ok (.aload_n 0, 1) := by decide +kernel
theorem dc_MD_field_100 : decode prog_9_method_28_code 100 = .ok (.getfield 120, 3) := by decide +kernel
theorem dc_MD_field_103 : decode prog_9_method_28_code 103 = .ok (.ireturn, 1) := by decide +kernel
theorem dc_MD_field_104 : decode prog_9_method_28_code 104 = .ok (.aload_n 0, 1) := by decide +kernel
theorem dc_MD_field_105 : decode prog_9_method_28_code 105 = .ok (.getfield 123, 3) := by decide +kernel
theorem dc_MD_field_108 : decode prog_9_method_28_code 108 = .ok (.ireturn, 1) := by decide +kernel
theorem dc_MD_field_109 : decode prog_9_method_28_code 109 = .ok (.aload_n 0, 1) := by decide +kernel
theorem dc_MD_field_110 : decode prog_9_method_28_code 110 = .ok (.getfield 171, 3) := by decide +kernel
theorem dc_MD_field_113 : decode prog_9_method_28_code 113 = .ok (.ireturn, 1) := by decide +kernel
theorem dc_MD_field_114 : decode prog_9_method_28_code 114 = .ok (.aload_n 0, 1) := by decide +kernel
theorem dc_MD_field_115 : decode prog_9_method_28_code 115 = .ok (.aload_n 0, 1) := by decide +kernel
theorem dc_MD_field_116 : decode prog_9_method_28_code 116 = .ok (.getfield 129, 3) := by decide +kernel
theorem dc_MD_field_119 : decode prog_9_method_28_code 119 = .ok (.aload_n 0, 1) := by decide +kernel
theorem dc_MD_field_120 : decode prog_9_method_28_code 120 = .ok (.getfield 165, 3) := by decide +kernel
theorem dc_MD_field_123 : decode prog_9_method_28_code 123 = .ok (.invokevirtual 30, 3) := by decide +kernel
theorem dc_MD_field_126 : decode prog_9_method_28_code 126 = .ok (.ireturn, 1) := by decide +kernel
theorem dc_MD_field_127 : decode prog_9_method_28_code 127 = .ok (.aload_n 0, 1) := by decide +kernel
theorem dc_MD_field_128 : decode prog_9_method_28_code 128 = .ok (.getfield 67, 3) := by decide +kernel
theorem dc_MD_field_131 : decode prog_9_method_28_code 131 = .ok (.ifCond .eq 7, 3) := by decide +kernel
theorem dc_MD_field_134 : decode prog_9_method_28_code 134 = .ok (.iconst 1, 1) := by decide +kernel
theorem dc_MD_field_135 : decode prog_9_method_28_code 135 = .ok (.goto 4, 3) := by decide +kernel
theorem dc_MD_field_138 : decode prog_9_method_28_code 138 = .ok (.iconst 0, 1) := by decide +kernel
theorem dc_MD_field_139 : decode prog_9_method_28_code 139 = .ok (.ireturn, 1) := by decide +kernel
theorem dc_MD_field_140 : decode prog_9_method_28_code 140 = .ok (.aload_n 0, 1) := by decide +kernel
theorem dc_MD_field_141 : decode prog_9_method_28_code 141 = .ok (.getfield 74, 3) := by decide +kernel
theorem dc_MD_field_144 : decode prog_9_method_28_code 144 = .ok (.ireturn, 1) := by decide +kernel
theorem dc_MD_field_145 : decode prog_9_method_28_code 145 = .ok (.aload_n 0, 1) := by decide +kernel
theorem dc_MD_field_146 : decode prog_9_method_28_code 146 = .ok (.getfield 57, 3) := by decide +kernel
theorem dc_MD_field_149 : decode prog_9_method_28_code 149 = .ok (.ireturn, 1) := by decide +kernel
theorem dc_MD_field_150 : decode prog_9_method_28_code 150 = .ok (.aload_n 0, 1) := by decide +kernel
theorem dc_MD_field_151 : decode prog_9_method_28_code 151 = .ok (.getfield 105, 3) := by decide +kernel
theorem dc_MD_field_154 : decode prog_9_method_28_code 154 = .ok (.ireturn, 1) := by decide +kernel
theorem dc_MD_field_155 : decode prog_9_method_28_code 155 = .ok (.aload_n 0, 1) := by decide +kernel
theorem dc_MD_field_156 : decode prog_9_method_28_code 156 = .ok (.getfield 90, 3) := by decide +kernel
theorem dc_MD_field_159 : decode prog_9_method_28_code 159 = .ok (.ireturn, 1) := by decide +kernel
theorem dc_MD_field_160 : decode prog_9_method_28_code 160 = .ok (.aload_n 0, 1) := by decide +kernel
theorem dc_MD_field_161 : decode prog_9_method_28_code 161 = .ok (.getfield 99, 3) := by decide +kernel
theorem dc_MD_field_164 : decode prog_9_method_28_code 164 = .ok (.ireturn, 1) := by decide +kernel
theorem dc_MD_field_165 : decode prog_9_method_28_code 165 = .ok (.aload_n 0, 1) := by decide +kernel
theorem dc_MD_field_166 : decode prog_9_method_28_code 166 = .ok (.getfield 141, 3) := by decide +kernel
theorem dc_MD_field_169 : decode prog_9_method_28_code 169 = .ok (.ireturn, 1) := by decide +kernel
theorem dc_MD_field_170 : decode prog_9_method_28_code 170 = .ok (.aload_n 0, 1) := by decide +kernel
theorem dc_MD_field_171 : decode prog_9_method_28_code 171 = .ok (.getfield 156, 3) := by decide +kernel
theorem dc_MD_field_174 : decode prog_9_method_28_code 174 = .ok (.ireturn, 1) := by decide +kernel
theorem dc_MD_field_175 : decode prog_9_method_28_code 175 = .ok (.iconst (-1), 1) := by decide +kernel
theorem dc_MD_field_176 : decode prog_9_method_28_code 176 = .ok (.ireturn, 1) := by decide +kernel
theorem dc_MD_inside_0 : decode prog_9_method_29_code 0 = .ok (.iload 4, 2) := by decide +kernel
theorem dc_MD_inside_2 : decode prog_9_method_29_code 2 = .ok (.iload_n 3, 1) := by decide +kernel
theorem dc_MD_inside_3 : decode prog_9_method_29_code 3 = .ok (.isub, 1) := by decide +kernel
theorem dc_MD_inside_4 : decode prog_9_method_29_code 4 = .ok (.iload_n 2, 1) := by decide +kernel
theorem dc_MD_inside_5 : decode prog_9_method_29_code 5 = .ok (.iload_n 1, 1) := by decide +kernel
theorem dc_MD_inside_6 : decode prog_9_method_29_code 6 = .ok (.isub, 1) := by decide +kernel
theorem dc_MD_inside_7 : decode prog_9_method_29_code 7 = .ok (.if_icmp .le 5, 3) := by decide +kernel
theorem dc_MD_inside_10 : decode prog_9_method_29_code 10 = .ok (.iconst 0, 1) := by decide +kernel
theorem dc_MD_inside_11 : decode prog_9_method_29_code 11 = .ok (.ireturn, 1) := by decide +kernel
theorem dc_MD_inside_12 : decode prog_9_method_29_code 12 = .ok (.iconst 1, 1) := by decide +kernel
theorem dc_MD_inside_13 : decode prog_9_method_29_code 13 = .ok (.istore 5, 2) := by decide +kernel
theorem dc_MD_inside_15 : decode prog_9_method_29_code 15 = .ok (.iconst 0, 1) := by decide +kernel
theorem dc_MD_inside_16 : decode prog_9_method_29_code 16 = .ok (.istore 6, 2) := by decide +kernel
theorem dc_MD_inside_18 : decode prog_9_method_29_code 18 = .ok (.iload 6, 2) := by decide +kernel
theorem dc_MD_inside_20 : decode prog_9_method_29_code 20 = .ok (.iload 4, 2) := by decide +kernel
theorem dc_MD_inside_22 : decode prog_9_method_29_code 22 = .ok (.iload_n 3, 1) := by decide +kernel
theorem dc_MD_inside_23 : decode prog_9_method_29_code 23 = .ok (.isub, 1) := by decide +kernel
theorem dc_MD_inside_24 : decode prog_9_method_29_code 24 = .ok (.if_icmp .ge 42, 3) := by decide +kernel
theorem dc_MD_inside_27 : decode prog_9_method_29_code 27 = .ok (.iload 5, 2) := by decide +kernel
theorem dc_MD_inside_29 : decode prog_9_method_29_code 29 = .ok (.ifCond .eq 28, 3) := by decide +kernel
theorem dc_MD_inside_32 : decode prog_9_method_29_code 32 = .ok (.aload_n 0, 1) := by decide +kernel
theorem dc_MD_inside_33 : decode prog_9_method_29_code 33 = .ok (.getfield 7, 3) := by decide +kernel
theorem dc_MD_inside_36 : decode prog_9_method_29_code 36 = .ok (.iload_n 1, 1) := by decide +kernel
theorem dc_MD_inside_37 : decode prog_9_method_29_code 37 = .ok (.iload 6, 2) := by decide +kernel
theorem dc_MD_inside_39 : decode prog_9_method_29_code 39 = .ok (.iadd, 1) := by decide +kernel
theorem dc_MD_inside_40 : decode prog_9_method_29_code 40 = .ok (.iaload, 1) := by decide +kernel
theorem dc_MD_inside_41 : decode prog_9_method_29_code 41 = .ok (.aload_n 0, 1) := by decide +kernel
theorem dc_MD_inside_42 : decode prog_9_method_29_code 42 = .ok (.getfield 7, 3) := by decide +kernel
theorem dc_MD_inside_45 : decode prog_9_method_29_code 45 = .ok (.iload_n 3, 1) := by decide +kernel
theorem dc_MD_inside_46 : decode prog_9_method_29_code 46 = .ok (.iload 6, 2) := by decide +kernel
theorem dc_MD_inside_48 : decode prog_9_method_29_code 48 = .ok (.iadd, 1) := by decide +kernel
theorem dc_MD_inside_49 : decode prog_9_method_29_code 49 = .ok (.iaload, 1) := by decide +kernel
theorem dc_MD_inside_50 : decode prog_9_method_29_code 50 = .ok (.if_icmp .ne 7, 3) := by decide +kernel
theorem dc_MD_inside_53 : decode prog_9_method_29_code 53 = .ok (.iconst 1, 1) := by decide +kernel
theorem dc_MD_inside_54 : decode prog_9_method_29_code 54 = .ok (.goto 4, 3) := by decide +kernel
theorem dc_MD_inside_57 : decode prog_9_method_29_code 57 = .ok (.iconst 0, 1) := by decide +kernel
theorem dc_MD_inside_58 : decode prog_9_method_29_code 58 = .ok (.istore 5, 2) := by decide +kernel
theorem dc_MD_inside_60 : decode prog_9_method_29_code 60 = .ok (.iinc 6 1, 3) := by decide +kernel
theorem dc_MD_inside_63 : decode prog_9_method_29_code 63 = .ok (.goto (-45), 3) := by decide +kernel
theorem dc_MD_inside_66 : decode prog_9_method_29_code 66 = .ok (.iload 5, 2) := by decide +kernel
theorem dc_MD_inside_68 : decode prog_9_method_29_code 68 = .ok (.ireturn, 1) := by decide +kernel
theorem dc_MD_equalNames_0 : decode prog_9_method_30_code 0 = .ok (.iload_n 2, 1) := by decide +kernel
theorem dc_MD_equalNames_1 : decode prog_9_method_30_code 1 = .ok (.iload_n 1, 1) := by decide +kernel
theorem dc_MD_equalNames_2 : decode prog_9_method_30_code 2 = .ok (.isub, 1) := by decide +kernel
theorem dc_MD_equalNames_3 : decode prog_9_method_30_code 3 = .ok (.iload 4, 2) := by decide +kernel
theorem dc_MD_equalNames_5 : decode prog_9_method_30_code 5 = .ok (.iload_n 3, 1) := by decide +kernel
theorem dc_MD_equalNames_6 : decode prog_9_method_30_code 6 = .ok (.isub, 1) := by decide +kernel
theorem dc_MD_equalNames_7 : decode prog_9_method_30_code 7 = .ok (.if_icmp .ne 19, 3) := by decide +kernel
theorem dc_MD_equalNames_10 : decode prog_9_method_30_code 10 = .ok (.aload_n 0, 1) := by decide +kernel
theorem dc_MD_equalNames_11 : decode prog_9_method_30_code 11 = .ok (.iload_n 1, 1) := by decide +kernel
theorem dc_MD_equalNames_12 : decode prog_9_method_30_code 12 = .ok (.iload_n 2, 1) := by decide +kernel
theorem dc_MD_equalNames_13 : decode prog_9_method_30_code 13 = .ok (.iload_n 3, 1) := by decide +kernel
theorem dc_MD_equalNames_14 : decode prog_9_method_30_code 14 = .ok (.iload 4, 2) := by decide +kernel
theorem dc_MD_equalNames_16 : decode prog_9_method_30_code 16 = .ok (.invokevirtual 186, 3) := by decide +kernel
theorem dc_MD_equalNames_19 : decode prog_9_method_30_code 19 = .ok (.ifCond .eq 7, 3) := by decide +kernel
theorem dc_MD_equalNames_22 : decode prog_9_method_30_code 22 = .ok (.iconst 1, 1) := by decide +kernel
theorem dc_MD_equalNames_23 : decode prog_9_method_30_code 23 = .ok (.goto 4, 3) := by decide +kernel
theorem dc_MD_equalNames_26 : decode prog_9_method_30_code 26 = .ok (.iconst 0, 1) := by decide +kernel
theorem dc_MD_equalNames_27 : decode prog_9_method_30_code 27 = .ok (.ireturn, 1) := by decide +kernel
theorem dc_MD_within_0 : decode prog_9_method_31_code 0 = .ok (.aload_n 0, 1) := by decide +kernel
theorem dc_MD_within_1 : decode prog_9_method_31_code 1 = .ok (.iload_n 1, 1) := by decide +kernel
theorem dc_MD_within_2 : decode prog_9_method_31_code 2 = .ok (.invokevirtual 183, 3) := by decide +kernel
theorem dc_MD_within_5 : decode prog_9_method_31_code 5 = .ok (.ifCond .ne 5, 3) := by decide +kernel
theorem dc_MD_within_8 : decode prog_9_method_31_code 8 = .ok (.iconst 0, 1) := by decide +kernel
theorem dc_MD_within_9 : decode prog_9_method_31_code 9 = .ok (.ireturn, 1) := by decide +kernel
theorem dc_MD_within_10 : decode prog_9_method_31_code 10 = .ok (.iload_n 2, 1) := by decide +kernel
theorem dc_MD_within_11 : decode prog_9_method_31_code 11 = .ok (.ifCond .eq 10, 3) := by decide +kernel
theorem dc_MD_within_14 : decode prog_9_method_31_code 14 = .ok (.aload_n 0, 1) := by decide +kernel
theorem dc_MD_within_15 : decode prog_9_method_31_code 15 = .ok (.getfield 135, 3) := by decide +kernel
theorem dc_MD_within_18 : decode prog_9_method_31_code 18 = .ok (.goto 7, 3) := by decide +kernel
theorem dc_MD_within_21 : decode prog_9_method_31_code 21 = .ok (.aload_n 0, 1) := by decide +kernel
theorem dc_MD_within_22 : decode prog_9_method_31_code 22 = .ok (.getfield 150, 3) := by decide +kernel
theorem dc_MD_within_25 : decode prog_9_method_31_code 25 = .ok (.istore 5, 2) := by decide +kernel
theorem dc_MD_within_27 : decode prog_9_method_31_code 27 = .ok (.iload_n 2, 1) := by decide +kernel
theorem dc_MD_within_28 : decode prog_9_method_31_code 28 = .ok (.ifCond .eq 10, 3) := by decide +kernel
theorem dc_MD_within_31 : decode prog_9_method_31_code 31 = .ok (.aload_n 0, 1) := by decide +kernel
theorem dc_MD_within_32 : decode prog_9_method_31_code 32 = .ok (.getfield 138, 3) := by decide +kernel
theorem dc_MD_within_35 : decode prog_9_method_31_code 35 = .ok (.goto 7, 3) := by decide +kernel
theorem dc_MD_within_38 : decode prog_9_method_31_code 38 = .ok (.aload_n 0, 1) := by decide +kernel
theorem dc_MD_within_39 : decode prog_9_method_31_code 39 = .ok (.getfield 153, 3) := by decide +kernel
theorem dc_MD_within_42 : decode prog_9_method_31_code 42 = .ok (.istore 6, 2) := by decide +kernel
theorem dc_MD_within_44 : decode prog_9_method_31_code 44 = .ok (.aload_n 0, 1) := by decide +kernel
theorem dc_MD_within_45 : decode prog_9_method_31_code 45 = .ok (.iload_n 3, 1) := by decide +kernel
theorem dc_MD_within_46 : decode prog_9_method_31_code 46 = .ok (.invokevirtual 183, 3) := by decide +kernel
theorem dc_MD_within_49 : decode prog_9_method_31_code 49 = .ok (.ifCond .ne 5, 3) := by decide +kernel
theorem dc_MD_within_52 : decode prog_9_method_31_code 52 = .ok (.iconst 0, 1) := by decide +kernel
theorem dc_MD_within_53 : decode prog_9_method_31_code 53 = .ok (.ireturn, 1) := by decide +kernel
theorem dc_MD_within_54 : decode prog_9_method_31_code 54 = .ok (.aload_n 0, 1) := by decide +kernel
theorem dc_MD_within_55 : decode prog_9_method_31_code 55 = .ok (.iload 5, 2) := by decide +kernel
theorem dc_MD_within_57 : decode prog_9_method_31_code 57 = .ok (.iload 6, 2) := by decide +kernel
theorem dc_MD_within_59 : decode prog_9_method_31_code 59 = .ok (.iload 4, 2) := by decide +kernel
theorem dc_MD_within_61 : decode prog_9_method_31_code 61 = .ok (.ifCond .eq 10, 3) := by decide +kernel
theorem dc_MD_within_64 : decode prog_9_method_31_code 64 = .ok (.aload_n 0, 1) := by decide +kernel
theorem dc_MD_within_65 : decode prog_9_method_31_code 65 = .ok (.getfield 135, 3) := by decide +kernel
theorem dc_MD_within_68 : decode prog_9_method_31_code 68 = .ok (.goto 7, 3) := by decide +kernel
theorem dc_MD_within_71 : decode prog_9_method_31_code 71 = .ok (.aload_n 0, 1) := by decide +kernel
theorem dc_MD_within_72 : decode prog_9_method_31_code 72 = .ok (.getfield 150, 3) := by decide +kernel
theorem dc_MD_within_75 : decode prog_9_method_31_code 75 = .ok (.iload 4, 2) := by decide +kernel
theorem dc_MD_within_77 : decode prog_9_method_31_code 77 = .ok (.ifCond .eq 10, 3) := by decide +kernel
theorem dc_MD_within_80 : decode prog_9_method_31_code 80 = .ok (.aload_n 0, 1) := by decide +kernel
theorem dc_MD_within_81 : decode prog_9_method_31_code 81 = .ok (.getfield 138, 3) := by decide +kernel
theorem dc_MD_within_84 : decode prog_9_method_31_code 84 = .ok (.goto 7, 3) := by decide +kernel
theorem dc_MD_within_87 : decode prog_9_method_31_code 87 = .ok (.aload_n 0, 1) := by decide +kernel
theorem dc_MD_within_88 : decode prog_9_method_31_code 88 = .ok (.getfield 153, 3) := by decide +kernel
theorem dc_MD_within_91 : decode prog_9_method_31_code 91 = .ok (.invokevirtual 186, 3) := by decide +kernel
theorem dc_MD_within_94 : decode prog_9_method_31_code 94 = .ok (.ireturn, 1) := by decide +kernel
theorem dc_MD_recode_0 : decode prog_9_method_32_code 0 = .ok (.aload_n 0, 1) := by decide +kernel
theorem dc_MD_recode_1 : decode prog_9_method_32_code 1 = .ok (.iload_n 1, 1) := by decide +kernel
theorem dc_MD_recode_2 : decode prog_9_method_32_code 2 = .ok (.invokevirtual 177, 3) := by decide +kernel
theorem dc_MD_recode_5 : decode prog_9_method_32_code 5 = .ok (.ifCond .ne 5, 3) := by decide +kernel
theorem dc_MD_recode_8 : decode prog_9_method_32_code 8 = .ok (.iconst (-1), 1) := by decide +kernel
theorem dc_MD_recode_9 : decode prog_9_method_32_code 9 = .ok (.ireturn, 1) := by decide +kernel
theorem dc_MD_recode_10 : decode prog_9_method_32_code 10 = .ok (.aload_n 0, 1) := by decide +kernel
theorem dc_MD_recode_11 : decode prog_9_method_32_code 11 = .ok (.aload_n 0, 1) := by decide +kernel
theorem dc_MD_recode_12 : decode prog_9_method_32_code 12 = .ok (.getfield 13, 3) := by decide +kernel
theorem dc_MD_recode_15 : decode prog_9_method_32_code 15 = .ok (.iload_n 1, 1) := by decide +kernel
theorem dc_MD_recode_16 : decode prog_9_method_32_code 16 = .ok (.iaload, 1) := by decide +kernel
theorem dc_MD_recode_17 : decode prog_9_method_32_code 17 = .ok (.putfield 22, 3) := by decide +kernel
theorem dc_MD_recode_20 : decode prog_9_method_32_code 20 = .ok (.iconst 0, 1) := by decide +kernel
theorem dc_MD_recode_21 : decode prog_9_method_32_code 21 = .ok (.istore_n 2, 1) := by decide +kernel
theorem dc_MD_recode_22 : decode prog_9_method_32_code 22 = .ok (.iload_n 2, 1) := by decide +kernel
theorem dc_MD_recode_23 : decode prog_9_method_32_code 23 = .ok (.aload_n 0, 1) := by decide +kernel
theorem dc_MD_recode_24 : decode prog_9_method_32_code 24 = .ok (.getfield 22, 3) := by decide +kernel
theorem dc_MD_recode_27 : decode prog_9_method_32_code 27 = .ok (.if_icmp .ge 31, 3) := by decide +kernel
theorem dc_MD_recode_30 : decode prog_9_method_32_code 30 = .ok (.aload_n 0, 1) := by decide +kernel
theorem dc_MD_recode_31 : decode prog_9_method_32_code 31 = .ok (.getfield 7, 3) := by decide +kernel
theorem dc_MD_recode_34 : decode prog_9_method_32_code 34 = .ok (.sipush 1280, 3) := by decide +kernel
theorem dc_MD_recode_37 : decode prog_9_method_32_code 37 = .ok (.iload_n 2, 1) := by decide +kernel
theorem dc_MD_recode_38 : decode prog_9_method_32_code 38 = .ok (.iadd, 1) := by decide +kernel
theorem dc_MD_recode_39 : decode prog_9_method_32_code 39 = .ok (.aload_n 0, 1) := by decide +kernel
theorem dc_MD_recode_40 : decode prog_9_method_32_code 40 = .ok (.getfield 7, 3) := by decide +kernel
theorem dc_MD_recode_43 : decode prog_9_method_32_code 43 = .ok (.sipush 160, 3) := by decide +kernel
theorem dc_MD_recode_46 : decode prog_9_method_32_code 46 = .ok (.iload_n 1, 1) := by decide +kernel
theorem dc_MD_recode_47 : decode prog_9_method_32_code 47 = .ok (.imul, 1) := by decide +kernel
theorem dc_MD_recode_48 : decode prog_9_method_32_code 48 = .ok (.iload_n 2, 1) := by decide +kernel
theorem dc_MD_recode_49 : decode prog_9_method_32_code 49 = .ok (.iadd, 1) := by decide +kernel
theorem dc_MD_recode_50 : decode prog_9_method_32_code 50 = .ok (.iaload, 1) := by decide +kernel
theorem dc_MD_recode_51 : decode prog_9_method_32_code 51 = .ok (.iastore, 1) := by decide +kernel
theorem dc_MD_recode_52 : decode prog_9_method_32_code 52 = .ok (.iinc 2 1, 3) := by decide +kernel
theorem dc_MD_recode_55 : decode prog_9_method_32_code 55 = .ok (.goto (-33), 3) := by decide +kernel
theorem dc_MD_recode_58 : decode prog_9_method_32_code 58 = .ok (.aload_n 0, 1) := by decide +kernel
theorem dc_MD_recode_59 : decode prog_9_method_32_code 59 = .ok (.getfield 22, 3) := by decide +kernel
theorem dc_MD_recode_62 : decode prog_9_method_32_code 62 = .ok (.ireturn, 1) := by decide +kernel
theorem dc_MD_link_0 : decode prog_9_method_33_code 0 = .ok (.aload_n 0, 1) := by decide +kernel
theorem dc_MD_link_1 : decode prog_9_method_33_code 1 = .ok (.iload_n 1, 1) := by decide +kernel
theorem dc_MD_link_2 : decode prog_9_method_33_code 2 = .ok (.invokevirtual 177, 3) := by decide +kernel
theorem dc_MD_link_5 : decode prog_9_method_33_code 5 = .ok (.ifCond .eq 12, 3) := by decide +kernel
theorem dc_MD_link_8 : decode prog_9_method_33_code 8 = .ok (.aload_n 0, 1) := by decide +kernel
theorem dc_MD_link_9 : decode prog_9_method_33_code 9 = .ok (.getfield 190, 3) := by decide +kernel
theorem dc_MD_link_12 : decode prog_9_method_33_code 12 = .ok (.bipush 6, 2) := by decide +kernel
theorem dc_MD_link_14 : decode prog_9_method_33_code 14 = .ok (.if_icmp .ne 5, 3) := by decide +kernel
theorem dc_MD_link_17 : decode prog_9_method_33_code 17 = .ok (.iconst 0, 1) := by decide +kernel
theorem dc_MD_link_18 : decode prog_9_method_33_code 18 = .ok (.ireturn, 1) := by decide +kernel
theorem dc_MD_link_19 : decode prog_9_method_33_code 19 = .ok (.aload_n 0, 1) := by decide +kernel
theorem dc_MD_link_20 : decode prog_9_method_33_code 20 = .ok (.getfield 16, 3) := by decide +kernel
theorem dc_MD_link_23 : decode prog_9_method_33_code 23 = .ok (.aload_n 0, 1) := by decide +kernel
theorem dc_MD_link_24 : decode prog_9_method_33_code 24 = .ok (.getfield 190, 3) := by decide +kernel
theorem dc_MD_link_27 : decode prog_9_method_33_code 27 = .ok (.iload_n 1, 1) := by decide +kernel
theorem dc_MD_link_28 : decode prog_9_method_33_code 28 = .ok (.iastore, 1) := by decide +kernel
theorem dc_MD_link_29 : decode prog_9_method_33_code 29 = .ok (.aload_n 0, 1) := by decide +kernel
theorem dc_MD_link_30 : decode prog_9_method_33_code 30 = .ok (.aload_n 0, 1) := by decide +kernel
theorem dc_MD_link_31 : decode prog_9_method_33_code 31 = .ok (.getfield 190, 3) := by decide +kernel
theorem dc_MD_link_34 : decode prog_9_method_33_code 34 = .ok (.iconst 1, 1) := by decide +kernel
theorem dc_MD_link_35 : decode prog_9_method_33_code 35 = .ok (.iadd, 1) := by decide +kernel
theorem dc_MD_link_36 : decode prog_9_method_33_code 36 = .ok (.putfield 190, 3) := by decide +kernel
theorem dc_MD_link_39 : decode prog_9_method_33_code 39 = .ok (.iconst 1, 1) := by decide +kernel
theorem dc_MD_link_40 : decode prog_9_method_33_code 40 = .ok (.ireturn, 1) := by decide +kernel
theorem dc_MD_unlink_0 : decode prog_9_method_34_code 0 = .ok (.aload_n 0, 1) := by decide +kernel
theorem dc_MD_unlink_1 : decode prog_9_method_34_code 1 = .ok (.getfield 190, 3) := by decide +kernel
theorem dc_MD_unlink_4 : decode prog_9_method_34_code 4 = .ok (.ifCond .ne 5, 3) := by decide +kernel
theorem dc_MD_unlink_7 : decode prog_9_method_34_code 7 = .ok (.iconst 0, 1) := by decide +kernel
theorem dc_MD_unlink_8 : decode prog_9_method_34_code 8 = .ok (.ireturn, 1) := by decide +kernel
theorem dc_MD_unlink_9 : decode prog_9_method_34_code 9 = .ok (.aload_n 0, 1) := by decide +kernel
theorem dc_MD_unlink_10 : decode prog_9_method_34_code 10 = .ok (.aload_n 0, 1) := by decide +kernel
theorem dc_MD_unlink_11 : decode prog_9_method_34_code 11 = .ok (.getfield 190, 3) := by decide +kernel
theorem dc_MD_unlink_14 : decode prog_9_method_34_code 14 = .ok (.iconst 1, 1) := by decide +kernel
theorem dc_MD_unlink_15 : decode prog_9_method_34_code 15 = .ok (.isub, 1) := by decide +kernel
theorem dc_MD_unlink_16 : decode prog_9_method_34_code 16 = .ok (.putfield 190, 3) := by decide +kernel
theorem dc_MD_unlink_19 : decode prog_9_method_34_code 19 = .ok (.iconst 1, 1) := by decide +kernel
theorem dc_MD_unlink_20 : decode prog_9_method_34_code 20 = .ok (.ireturn, 1) := by decide +kernel
theorem dc_MD_links_0 : decode prog_9_method_35_code 0 = .ok (.aload_n 0, 1) := by decide +kernel
theorem dc_MD_links_1 : decode prog_9_method_35_code 1 = .ok (.getfield 190, 3) := by decide +kernel
theorem dc_MD_links_4 : decode prog_9_method_35_code 4 = .ok (.ireturn, 1) := by decide +kernel
theorem dc_MD_some_0 : decode prog_9_method_36_code 0 = .ok (.iconst 0, 1) := by decide +kernel
theorem dc_MD_some_1 : decode prog_9_method_36_code 1 = .ok (.istore 5, 2) := by decide +kernel
theorem dc_MD_some_3 : decode prog_9_method_36_code 3 = .ok (.aload_n 0, 1) := by decide +kernel
theorem dc_MD_some_4 : decode prog_9_method_36_code 4 = .ok (.iload_n 3, 1) := by decide +kernel
theorem dc_MD_some_5 : decode prog_9_method_36_code 5 = .ok (.putfield 38, 3) := by decide +kernel
theorem dc_MD_some_8 : decode prog_9_method_36_code 8 = .ok (.aload_n 0, 1) := by decide +kernel
theorem dc_MD_some_9 : decode prog_9_method_36_code 9 = .ok (.iconst 0, 1) := by decide +kernel
theorem dc_MD_some_10 : decode prog_9_method_36_code 10 = .ok (.putfield 34, 3) := by decide +kernel
theorem dc_MD_some_13 : decode prog_9_method_36_code 13 = .ok (.aload_n 0, 1) := by decide +kernel
theorem dc_MD_some_14 : decode prog_9_method_36_code 14 = .ok (.getfield 38, 3) := by decide +kernel
theorem dc_MD_some_17 : decode prog_9_method_36_code 17 = .ok (.iload 4, 2) := by decide +kernel
theorem dc_MD_some_19 : decode prog_9_method_36_code 19 = .ok (.if_icmp .ge 56, 3) := by decide +kernel
theorem dc_MD_some_22 : decode prog_9_method_36_code 22 = .ok (.aload_n 0, 1) := by decide +kernel
theorem dc_MD_some_23 : decode prog_9_method_36_code 23 = .ok (.getfield 34, 3) := by decide +kernel
theorem dc_MD_some_26 : decode prog_9_method_36_code 26 = .ok (.ifCond .ne 49, 3) := by decide +kernel
theorem dc_MD_some_29 : decode prog_9_method_36_code 29 = .ok (.aload_n 0, 1) := by decide +kernel
theorem dc_MD_some_30 : decode prog_9_method_36_code 30 = .ok (.bipush 48, 2) := by decide +kernel
theorem dc_MD_some_32 : decode prog_9_method_36_code 32 = .ok (.iload 4, 2) := by decide +kernel
theorem dc_MD_some_34 : decode prog_9_method_36_code 34 = .ok (.invokevirtual 45, 3) := by decide +kernel
theorem dc_MD_some_37 : decode prog_9_method_36_code 37 = .ok (.istore 6, 2) := by decide +kernel
theorem dc_MD_some_39 : decode prog_9_method_36_code 39 = .ok (.iload 5, 2) := by decide +kernel
theorem dc_MD_some_41 : decode prog_9_method_36_code 41 = .ok (.ifCond .ne 18, 3) := by decide +kernel
theorem dc_MD_some_44 : decode prog_9_method_36_code 44 = .ok (.aload_n 0, 1) := by decide +kernel
theorem dc_MD_some_45 : decode prog_9_method_36_code 45 = .ok (.iload_n 1, 1) := by decide +kernel
theorem dc_MD_some_46 : decode prog_9_method_36_code 46 = .ok (.iload_n 2, 1) := by decide +kernel
theorem dc_MD_some_47 : decode prog_9_method_36_code 47 = .ok (.aload_n 0, 1) := by decide +kernel
theorem dc_MD_some_48 : decode prog_9_method_36_code 48 = .ok (.getfield 38, 3) := by decide +kernel
theorem dc_MD_some_51 : decode prog_9_method_36_code 51 = .ok (.iload 6, 2) := by decide +kernel
theorem dc_MD_some_53 : decode prog_9_method_36_code 53 = .ok (.invokevirtual 186, 3) := by decide +kernel
theorem dc_MD_some_56 : decode prog_9_method_36_code 56 = .ok (.ifCond .eq 7, 3) := by decide +kernel
theorem dc_MD_some_59 : decode prog_9_method_36_code 59 = .ok (.iconst 1, 1) := by decide +kernel
theorem dc_MD_some_60 : decode prog_9_method_36_code 60 = .ok (.goto 4, 3) := by decide +kernel
theorem dc_MD_some_63 : decode prog_9_method_36_code 63 = .ok (.iconst 0, 1) := by decide +kernel
theorem dc_MD_some_64 : decode prog_9_method_36_code 64 = .ok (.istore 5, 2) := by decide +kernel
theorem dc_MD_some_66 : decode prog_9_method_36_code 66 = .ok (.aload_n 0, 1) := by decide +kernel
theorem dc_MD_some_67 : decode prog_9_method_36_code 67 = .ok (.iload 6, 2) := by decide +kernel
theorem dc_MD_some_69 : decode prog_9_method_36_code 69 = .ok (.putfield 38, 3) := by decide +kernel
theorem dc_MD_some_72 : decode prog_9_method_36_code 72 = .ok (.goto (-59), 3) := by decide +kernel
theorem dc_MD_some_75 : decode prog_9_method_36_code 75 = .ok (.iload 5, 2) := by decide +kernel
theorem dc_MD_some_77 : decode prog_9_method_36_code 77 = .ok (.ireturn, 1) := by decide +kernel
theorem dc_MD_passes_0 : decode prog_9_method_37_code 0 = .ok (.iconst 1, 1) := by decide +kernel
theorem dc_MD_passes_1 : decode prog_9_method_37_code 1 = .ok (.istore 4, 2) := by decide +kernel
theorem dc_MD_passes_3 : decode prog_9_method_37_code 3 = .ok (.iconst 0, 1) := by decide +kernel
theorem dc_MD_passes_4 : decode prog_9_method_37_code 4 = .ok (.istore 5, 2) := by decide +kernel
theorem dc_MD_passes_6 : decode prog_9_method_37_code 6 = .ok (.iload 5, 2) := by decide +kernel
theorem dc_MD_passes_8 : decode prog_9_method_37_code 8 = .ok (.iload_n 1, 1) := by decide +kernel
theorem dc_MD_passes_9 : decode prog_9_method_37_code 9 = .ok (.if_icmp .ge 91, 3) := by decide +kernel
theorem dc_MD_passes_12 : decode prog_9_method_37_code 12 = .ok (.iload 4, 2) := by decide +kernel
theorem dc_MD_passes_14 : decode prog_9_method_37_code 14 = .ok (.ifCond .eq 86, 3) := by decide +kernel
theorem dc_MD_passes_17 : decode prog_9_method_37_code 17 = .ok (.aload_n 0, 1) := by decide +kernel
theorem dc_MD_passes_18 : decode prog_9_method_37_code 18 = .ok (.aload_n 0, 1) := by decide +kernel
theorem dc_MD_passes_19 : decode prog_9_method_37_code 19 = .ok (.getfield 16, 3) := by decide +kernel
theorem dc_MD_passes_22 : decode prog_9_method_37_code 22 = .ok (.iload 5, 2) := by decide +kernel
theorem dc_MD_passes_24 : decode prog_9_method_37_code 24 = .ok (.iaload, 1) := by decide +kernel
theorem dc_MD_passes_25 : decode prog_9_method_37_code 25 = .ok (.invokevirtual 183, 3) := by decide +kernel
theorem dc_MD_passes_28 : decode prog_9_method_37_code 28 = .ok (.istore 4, 2) := by decide +kernel
theorem dc_MD_passes_30 : decode prog_9_method_37_code 30 = .ok (.iload 4, 2) := by decide +kernel
theorem dc_MD_passes_32 : decode prog_9_method_37_code 32 = .ok (.ifCond .eq 26, 3) := by decide +kernel
theorem dc_MD_passes_35 : decode prog_9_method_37_code 35 = .ok (.aload_n 0, 1) := by decide +kernel
theorem dc_MD_passes_36 : decode prog_9_method_37_code 36 = .ok (.getfield 90, 3) := by decide +kernel
theorem dc_MD_passes_39 : decode prog_9_method_37_code 39 = .ok (.ifCond .le 19, 3) := by decide +kernel
theorem dc_MD_passes_42 : decode prog_9_method_37_code 42 = .ok (.aload_n 0, 1) := by decide +kernel
theorem dc_MD_passes_43 : decode prog_9_method_37_code 43 = .ok (.iload_n 2, 1) := by decide +kernel
theorem dc_MD_passes_44 : decode prog_9_method_37_code 44 = .ok (.iload_n 3, 1) := by decide +kernel
theorem dc_MD_passes_45 : decode prog_9_method_37_code 45 = .ok (.aload_n 0, 1) := by decide +kernel
theorem dc_MD_passes_46 : decode prog_9_method_37_code 46 = .ok (.getfield 84, 3) := by decide +kernel
theorem dc_MD_passes_49 : decode prog_9_method_37_code 49 = .ok (.aload_n 0, 1) := by decide +kernel
theorem dc_MD_passes_50 : decode prog_9_method_37_code 50 = .ok (.getfield 93, 3) := by decide +kernel
theorem dc_MD_passes_53 : decode prog_9_method_37_code 53 = .ok (.invokevirtual 193, 3) := by decide +kernel
theorem dc_MD_passes_56 : decode prog_9_method_37_code 56 = .ok (.istore 4, 2) := by decide +kernel
theorem dc_MD_passes_58 : decode prog_9_method_37_code 58 = .ok (.iload 4, 2) := by decide +kernel
theorem dc_MD_passes_60 : decode prog_9_method_37_code 60 = .ok (.ifCond .eq 34, 3) := by decide +kernel
theorem dc_MD_passes_63 : decode prog_9_method_37_code 63 = .ok (.aload_n 0, 1) := by decide +kernel
theorem dc_MD_passes_64 : decode prog_9_method_37_code 64 = .ok (.getfield 99, 3) := by decide +kernel
theorem dc_MD_passes_67 : decode prog_9_method_37_code 67 = .ok (.ifCond .le 27, 3) := by decide +kernel
theorem dc_MD_passes_70 : decode prog_9_method_37_code 70 = .ok (.aload_n 0, 1) := by decide +kernel
theorem dc_MD_passes_71 : decode prog_9_method_37_code 71 = .ok (.iload_n 2, 1) := by decide +kernel
theorem dc_MD_passes_72 : decode prog_9_method_37_code 72 = .ok (.iload_n 3, 1) := by decide +kernel
theorem dc_MD_passes_73 : decode prog_9_method_37_code 73 = .ok (.aload_n 0, 1) := by decide +kernel
theorem dc_MD_passes_74 : decode prog_9_method_37_code 74 = .ok (.getfield 96, 3) := by decide +kernel
theorem dc_MD_passes_77 : decode prog_9_method_37_code 77 = .ok (.aload_n 0, 1) := by decide +kernel
theorem dc_MD_passes_78 : decode prog_9_method_37_code 78 = .ok (.getfield 102, 3) := by decide +kernel
theorem dc_MD_passes_81 : decode prog_9_method_37_code 81 = .ok (.invokevirtual 193, 3) := by decide +kernel
theorem dc_MD_passes_84 : decode prog_9_method_37_code 84 = .ok (.ifCond .ne 7, 3) := by decide +kernel
theorem dc_MD_passes_87 : decode prog_9_method_37_code 87 = .ok (.iconst 1, 1) := by decide +kernel
theorem dc_MD_passes_88 : decode prog_9_method_37_code 88 = .ok (.goto 4, 3) := by decide +kernel
theorem dc_MD_passes_91 : decode prog_9_method_37_code 91 = .ok (.iconst 0, 1) := by decide +kernel
theorem dc_MD_passes_92 : decode prog_9_method_37_code 92 = .ok (.istore 4, 2) := by decide +kernel
theorem dc_MD_passes_94 : decode prog_9_method_37_code 94 = .ok (.iinc 5 1, 3) := by decide +kernel
theorem dc_MD_passes_97 : decode prog_9_method_37_code 97 = .ok (.goto (-91), 3) := by decide +kernel
theorem dc_MD_passes_100 : decode prog_9_method_37_code 100 = .ok (.iload 4, 2) := by decide +kernel
theorem dc_MD_passes_102 : decode prog_9_method_37_code 102 = .ok (.ireturn, 1) := by decide +kernel
theorem dc_MD_signedByKey_0 : decode prog_9_method_38_code 0 = .ok (.lconst 1, 1) := by decide +kernel
theorem dc_MD_signedByKey_1 : decode prog_9_method_38_code 1 = .ok (.lstore_n 1, 1) := by decide +kernel
theorem dc_MD_signedByKey_2 : decode prog_9_method_38_code 2 = .ok (.iconst 0, 1) := by decide +kernel
theorem dc_MD_signedByKey_3 : decode prog_9_method_38_code 3 = .ok (.istore_n 3, 1) := by decide +kernel
theorem dc_MD_signedByKey_4 : decode prog_9_method_38_code 4 = .ok (.iload_n 3, 1) := by decide +kernel
theorem dc_MD_signedByKey_5 : decode prog_9_method_38_code 5 = .ok (.aload_n 0, 1) := by decide +kernel
theorem dc_MD_signedByKey_6 : decode prog_9_method_38_code 6 = .ok (.getfield 196, 3) := by decide +kernel
theorem dc_MD_signedByKey_9 : decode prog_9_method_38_code 9 = .ok (.if_icmp .ge 23, 3) := by decide +kernel
theorem dc_MD_signedByKey_12 : decode prog_9_method_38_code 12 = .ok (.lload_n 1, 1) := by decide +kernel
theorem dc_MD_signedByKey_13 : decode prog_9_method_38_code 13 = .ok (.aload_n 0, 1) := by decide +kernel
theorem dc_MD_signedByKey_14 : decode prog_9_method_38_code 14 = .ok (.getfield 171, 3) := by decide +kernel
theorem dc_MD_signedByKey_17 : decode prog_9_method_38_code 17 = .ok (.i2l, 1) := by decide +kernel
theorem dc_MD_signedByKey_18 : decode prog_9_method_38_code 18 = .ok (.lmul, 1) := by decide +kernel
theorem dc_MD_signedByKey_19 : decode prog_9_method_38_code 19 = .ok (.aload_n 0, 1) := by decide +kernel
theorem dc_MD_signedByKey_20 : decode prog_9_method_38_code 20 = .ok (.getfield 199, 3) := by decide +kernel
theorem dc_MD_signedByKey_23 : decode prog_9_method_38_code 23 = .ok (.i2l, 1) := by decide +kernel
theorem dc_MD_signedByKey_24 : decode prog_9_method_38_code 24 = .ok (.lrem, 1) := by decide +kernel
theorem dc_MD_signedByKey_25 : decode prog_9_method_38_code 25 = .ok (.lstore_n 1, 1) := by decide +kernel
theorem dc_MD_signedByKey_26 : decode prog_9_method_38_code 26 = .ok (.iinc 3 1, 3) := by decide +kernel
theorem dc_MD_signedByKey_29 : decode prog_9_method_38_code 29 = .ok (.goto (-25), 3) := by decide +kernel
theorem dc_MD_signedByKey_32 : decode prog_9_method_38_code 32 = .ok (.aload_n 0, 1) := by decide +kernel
theorem dc_MD_signedByKey_33 : decode prog_9_method_38_code 33 = .ok (.getfield 171, 3) := by decide +kernel
theorem dc_MD_signedByKey_36 : decode prog_9_method_38_code 36 = .ok (.aload_n 0, 1) := by decide +kernel
theorem dc_MD_signedByKey_37 : decode prog_9_method_38_code 37 = .ok (.getfield 199, 3) := by decide +kernel
theorem dc_MD_signedByKey_40 : decode prog_9_method_38_code 40 = .ok (.if_icmp .ge 30, 3) := by decide +kernel
theorem dc_MD_signedByKey_43 : decode prog_9_method_38_code 43 = .ok (.lload_n 1, 1) := by decide +kernel
theorem dc_MD_signedByKey_44 : decode prog_9_method_38_code 44 = .ok (.aload_n 0, 1) := by decide +kernel
theorem dc_MD_signedByKey_45 : decode prog_9_method_38_code 45 = .ok (.aload_n 0, 1) := by decide +kernel
theorem dc_MD_signedByKey_46 : decode prog_9_method_38_code 46 = .ok (.getfield 129, 3) := by decide +kernel
theorem dc_MD_signedByKey_49 : decode prog_9_method_38_code 49 = .ok (.aload_n 0, 1) := by decide +kernel
theorem dc_MD_signedByKey_50 : decode prog_9_method_38_code 50 = .ok (.getfield 165, 3) := by decide +kernel
theorem dc_MD_signedByKey_53 : decode prog_9_method_38_code 53 = .ok (.invokevirtual 30, 3) := by decide +kernel
theorem dc_MD_signedByKey_56 : decode prog_9_method_38_code 56 = .ok (.aload_n 0, 1) := by decide +kernel
theorem dc_MD_signedByKey_57 : decode prog_9_method_38_code 57 = .ok (.getfield 199, 3) := by decide +kernel
theorem dc_MD_signedByKey_60 : decode prog_9_method_38_code 60 = .ok (.irem, 1) := by decide +kernel
theorem dc_MD_signedByKey_61 : decode prog_9_method_38_code 61 = .ok (.i2l, 1) := by decide +kernel
theorem dc_MD_signedByKey_62 : decode prog_9_method_38_code 62 = .ok (.lcmp, 1) := by decide +kernel
theorem dc_MD_signedByKey_63 : decode prog_9_method_38_code 63 = .ok (.ifCond .ne 7, 3) := by decide +kernel
theorem dc_MD_signedByKey_66 : decode prog_9_method_38_code 66 = .ok (.iconst 1, 1) := by decide +kernel
theorem dc_MD_signedByKey_67 : decode prog_9_method_38_code 67 = .ok (.goto 4, 3) := by decide +kernel
theorem dc_MD_signedByKey_70 : decode prog_9_method_38_code 70 = .ok (.iconst 0, 1) := by decide +kernel
theorem dc_MD_signedByKey_71 : decode prog_9_method_38_code 71 = .ok (.ireturn, 1) := by decide +kernel
theorem dc_MD_takeKey_0 : decode prog_9_method_39_code 0 = .ok (.aload_n 0, 1) := by decide +kernel
theorem dc_MD_takeKey_1 : decode prog_9_method_39_code 1 = .ok (.aload_n 0, 1) := by decide +kernel
theorem dc_MD_takeKey_2 : decode prog_9_method_39_code 2 = .ok (.getfield 120, 3) := by decide +kernel
theorem dc_MD_takeKey_5 : decode prog_9_method_39_code 5 = .ok (.putfield 199, 3) := by decide +kernel
theorem dc_MD_takeKey_8 : decode prog_9_method_39_code 8 = .ok (.aload_n 0, 1) := by decide +kernel
theorem dc_MD_takeKey_9 : decode prog_9_method_39_code 9 = .ok (.aload_n 0, 1) := by decide +kernel
theorem dc_MD_takeKey_10 : decode prog_9_method_39_code 10 = .ok (.getfield 123, 3) := by decide +kernel
theorem dc_MD_takeKey_13 : decode prog_9_method_39_code 13 = .ok (.putfield 196, 3) := by decide +kernel
theorem dc_MD_takeKey_16 : decode prog_9_method_39_code 16 = .ok (.aload_n 0, 1) := by decide +kernel
theorem dc_MD_takeKey_17 : decode prog_9_method_39_code 17 = .ok (.aload_n 0, 1) := by decide +kernel
theorem dc_MD_takeKey_18 : decode prog_9_method_39_code 18 = .ok (.getfield 150, 3) := by decide +kernel
theorem dc_MD_takeKey_21 : decode prog_9_method_39_code 21 = .ok (.putfield 202, 3) := by decide +kernel
theorem dc_MD_takeKey_24 : decode prog_9_method_39_code 24 = .ok (.aload_n 0, 1) := by decide +kernel
theorem dc_MD_takeKey_25 : decode prog_9_method_39_code 25 = .ok (.aload_n 0, 1) := by decide +kernel
theorem dc_MD_takeKey_26 : decode prog_9_method_39_code 26 = .ok (.getfield 153, 3) := by decide +kernel
theorem dc_MD_takeKey_29 : decode prog_9_method_39_code 29 = .ok (.putfield 205, 3) := by decide +kernel
theorem dc_MD_takeKey_32 : decode prog_9_method_39_code 32 = .ok (.return_, 1) := by decide +kernel
theorem dc_MD_broken_0 : decode prog_9_method_40_code 0 = .ok (.iload_n 1, 1) := by decide +kernel
theorem dc_MD_broken_1 : decode prog_9_method_40_code 1 = .ok (.aload_n 0, 1) := by decide +kernel
theorem dc_MD_broken_2 : decode prog_9_method_40_code 2 = .ok (.getfield 190, 3) := by decide +kernel
theorem dc_MD_broken_5 : decode prog_9_method_40_code 5 = .ok (.iconst 1, 1) := by decide +kernel
theorem dc_MD_broken_6 : decode prog_9_method_40_code 6 = .ok (.isub, 1) := by decide +kernel
theorem dc_MD_broken_7 : decode prog_9_method_40_code 7 = .ok (.if_icmp .ne 7, 3) := by decide +kernel
theorem dc_MD_broken_10 : decode prog_9_method_40_code 10 = .ok (.iconst 1, 1) := by decide +kernel
theorem dc_MD_broken_11 : decode prog_9_method_40_code 11 = .ok (.goto 4, 3) := by decide +kernel
theorem dc_MD_broken_14 : decode prog_9_method_40_code 14 = .ok (.iconst 0, 1) := by decide +kernel
theorem dc_MD_broken_15 : decode prog_9_method_40_code 15 = .ok (.istore 4, 2) := by decide +kernel
theorem dc_MD_broken_17 : decode prog_9_method_40_code 17 = .ok (.aload_n 0, 1) := by decide +kernel
theorem dc_MD_broken_18 : decode prog_9_method_40_code 18 = .ok (.aload_n 0, 1) := by decide +kernel
theorem dc_MD_broken_19 : decode prog_9_method_40_code 19 = .ok (.getfield 16, 3) := by decide +kernel
theorem dc_MD_broken_22 : decode prog_9_method_40_code 22 = .ok (.iload_n 1, 1) := by decide +kernel
theorem dc_MD_broken_23 : decode prog_9_method_40_code 23 = .ok (.iaload, 1) := by decide +kernel
theorem dc_MD_broken_24 : decode prog_9_method_40_code 24 = .ok (.invokevirtual 183, 3) := by decide +kernel
theorem dc_MD_broken_27 : decode prog_9_method_40_code 27 = .ok (.istore 5, 2) := by decide +kernel
theorem dc_MD_broken_29 : decode prog_9_method_40_code 29 = .ok (.iload 5, 2) := by decide +kernel
theorem dc_MD_broken_31 : decode prog_9_method_40_code 31 = .ok (.ifCond .eq 10, 3) := by decide +kernel
theorem dc_MD_broken_34 : decode prog_9_method_40_code 34 = .ok (.aload_n 0, 1) := by decide +kernel
theorem dc_MD_broken_35 : decode prog_9_method_40_code 35 = .ok (.invokevirtual 208, 3) := by decide +kernel
theorem dc_MD_broken_38 : decode prog_9_method_40_code 38 = .ok (.ifCond .ne 5, 3) := by decide +kernel
theorem dc_MD_broken_41 : decode prog_9_method_40_code 41 = .ok (.iconst 1, 1) := by decide +kernel
theorem dc_MD_broken_42 : decode prog_9_method_40_code 42 = .ok (.ireturn, 1) := by decide +kernel
theorem dc_MD_broken_43 : decode prog_9_method_40_code 43 = .ok (.iload_n 2, 1) := by decide +kernel
theorem dc_MD_broken_44 : decode prog_9_method_40_code 44 = .ok (.aload_n 0, 1) := by decide +kernel
theorem dc_MD_broken_45 : decode prog_9_method_40_code 45 = .ok (.getfield 144, 3) := by decide +kernel
theorem dc_MD_broken_48 : decode prog_9_method_40_code 48 = .ok (.if_icmp .lt 11, 3) := by decide +kernel
theorem dc_MD_broken_51 : decode prog_9_method_40_code 51 = .ok (.iload_n 2, 1) := by decide +kernel
theorem dc_MD_broken_52 : decode prog_9_method_40_code 52 = .ok (.aload_n 0, 1) := by decide +kernel
theorem dc_MD_broken_53 : decode prog_9_method_40_code 53 = .ok (.getfield 147, 3) := by decide +kernel
theorem dc_MD_broken_56 : decode prog_9_method_40_code 56 = .ok (.if_icmp .le 5, 3) := by decide +kernel
theorem dc_MD_broken_59 : decode prog_9_method_40_code 59 = .ok (.iconst 2, 1) := by decide +kernel
theorem dc_MD_broken_60 : decode prog_9_method_40_code 60 = .ok (.ireturn, 1) := by decide +kernel
theorem dc_MD_broken_61 : decode prog_9_method_40_code 61 = .ok (.aload_n 0, 1) := by decide +kernel
theorem dc_MD_broken_62 : decode prog_9_method_40_code 62 = .ok (.aload_n 0, 1) := by decide +kernel
theorem dc_MD_broken_63 : decode prog_9_method_40_code 63 = .ok (.getfield 135, 3) := by decide +kernel
theorem dc_MD_broken_66 : decode prog_9_method_40_code 66 = .ok (.aload_n 0, 1) := by decide +kernel
theorem dc_MD_broken_67 : decode prog_9_method_40_code 67 = .ok (.getfield 138, 3) := by decide +kernel
theorem dc_MD_broken_70 : decode prog_9_method_40_code 70 = .ok (.aload_n 0, 1) := by decide +kernel
theorem dc_MD_broken_71 : decode prog_9_method_40_code 71 = .ok (.getfield 202, 3) := by decide +kernel
theorem dc_MD_broken_74 : decode prog_9_method_40_code 74 = .ok (.aload_n 0, 1) := by decide +kernel
theorem dc_MD_broken_75 : decode prog_9_method_40_code 75 = .ok (.getfield 205, 3) := by decide +kernel
theorem dc_MD_broken_78 : decode prog_9_method_40_code 78 = .ok (.invokevirtual 212, 3) := by decide +kernel
theorem dc_MD_broken_81 : decode prog_9_method_40_code 81 = .ok (.ifCond .ne 5, 3) := by decide +kernel
theorem dc_MD_broken_84 : decode prog_9_method_40_code 84 = .ok (.iconst 3, 1) := by decide +kernel
theorem dc_MD_broken_85 : decode prog_9_method_40_code 85 = .ok (.ireturn, 1) := by decide +kernel
theorem dc_MD_broken_86 : decode prog_9_method_40_code 86 = .ok (.aload_n 0, 1) := by decide +kernel
theorem dc_MD_broken_87 : decode prog_9_method_40_code 87 = .ok (.aload_n 0, 1) := by decide +kernel
theorem dc_MD_broken_88 : decode prog_9_method_40_code 88 = .ok (.getfield 135, 3) := by decide +kernel
theorem dc_MD_broken_91 : decode prog_9_method_40_code 91 = .ok (.aload_n 0, 1) := by decide +kernel
theorem dc_MD_broken_92 : decode prog_9_method_40_code 92 = .ok (.getfield 138, 3) := by decide +kernel
theorem dc_MD_broken_95 : decode prog_9_method_40_code 95 = .ok (.aload_n 0, 1) := by decide +kernel
theorem dc_MD_broken_96 : decode prog_9_method_40_code 96 = .ok (.getfield 150, 3) := by decide +kernel
theorem dc_MD_broken_99 : decode prog_9_method_40_code 99 = .ok (.aload_n 0, 1) := by decide +kernel
theorem dc_MD_broken_100 : decode prog_9_method_40_code 100 = .ok (.getfield 153, 3) := by decide +kernel
theorem dc_MD_broken_103 : decode prog_9_method_40_code 103 = .ok (.invokevirtual 212, 3) := by decide +kernel
theorem dc_MD_broken_106 : decode prog_9_method_40_code 106 = .ok (.istore 6, 2) := by decide +kernel
theorem dc_MD_broken_108 : decode prog_9_method_40_code 108 = .ok (.iload 4, 2) := by decide +kernel
theorem dc_MD_broken_110 : decode prog_9_method_40_code 110 = .ok (.ifCond .ne 8, 3) := by decide +kernel
theorem dc_MD_broken_113 : decode prog_9_method_40_code 113 = .ok (.iload 6, 2) := by decide +kernel
theorem dc_MD_broken_115 : decode prog_9_method_40_code 115 = .ok (.ifCond .ne 21, 3) := by decide +kernel
theorem dc_MD_broken_118 : decode prog_9_method_40_code 118 = .ok (.aload_n 0, 1) := by decide +kernel
theorem dc_MD_broken_119 : decode prog_9_method_40_code 119 = .ok (.iload_n 1, 1) := by decide +kernel
theorem dc_MD_broken_120 : decode prog_9_method_40_code 120 = .ok (.aload_n 0, 1) := by decide +kernel
theorem dc_MD_broken_121 : decode prog_9_method_40_code 121 = .ok (.getfield 150, 3) := by decide +kernel
theorem dc_MD_broken_124 : decode prog_9_method_40_code 124 = .ok (.aload_n 0, 1) := by decide +kernel
theorem dc_MD_broken_125 : decode prog_9_method_40_code 125 = .ok (.getfield 153, 3) := by decide +kernel
theorem dc_MD_broken_128 : decode prog_9_method_40_code 128 = .ok (.invokevirtual 215, 3) := by decide +kernel
theorem dc_MD_broken_131 : decode prog_9_method_40_code 131 = .ok (.ifCond .ne 5, 3) := by decide +kernel
theorem dc_MD_broken_134 : decode prog_9_method_40_code 134 = .ok (.iconst 4, 1) := by decide +kernel
theorem dc_MD_broken_135 : decode prog_9_method_40_code 135 = .ok (.ireturn, 1) := by decide +kernel
theorem dc_MD_broken_136 : decode prog_9_method_40_code 136 = .ok (.aload_n 0, 1) := by decide +kernel
theorem dc_MD_broken_137 : decode prog_9_method_40_code 137 = .ok (.aload_n 0, 1) := by decide +kernel
theorem dc_MD_broken_138 : decode prog_9_method_40_code 138 = .ok (.getfield 16, 3) := by decide +kernel
theorem dc_MD_broken_141 : decode prog_9_method_40_code 141 = .ok (.iload_n 1, 1) := by decide +kernel
theorem dc_MD_broken_142 : decode prog_9_method_40_code 142 = .ok (.iaload, 1) := by decide +kernel
theorem dc_MD_broken_143 : decode prog_9_method_40_code 143 = .ok (.invokevirtual 183, 3) := by decide +kernel
theorem dc_MD_broken_146 : decode prog_9_method_40_code 146 = .ok (.istore 5, 2) := by decide +kernel
theorem dc_MD_broken_148 : decode prog_9_method_40_code 148 = .ok (.aload_n 0, 1) := by decide +kernel
theorem dc_MD_broken_149 : decode prog_9_method_40_code 149 = .ok (.getfield 108, 3) := by decide +kernel
theorem dc_MD_broken_152 : decode prog_9_method_40_code 152 = .ok (.ifCond .eq 5, 3) := by decide +kernel
theorem dc_MD_broken_155 : decode prog_9_method_40_code 155 = .ok (.iconst 5, 1) := by decide +kernel
theorem dc_MD_broken_156 : decode prog_9_method_40_code 156 = .ok (.ireturn, 1) := by decide +kernel
theorem dc_MD_broken_157 : decode prog_9_method_40_code 157 = .ok (.iload 4, 2) := by decide +kernel
theorem dc_MD_broken_159 : decode prog_9_method_40_code 159 = .ok (.ifCond .eq 29, 3) := by decide +kernel
theorem dc_MD_broken_162 : decode prog_9_method_40_code 162 = .ok (.aload_n 0, 1) := by decide +kernel
theorem dc_MD_broken_163 : decode prog_9_method_40_code 163 = .ok (.getfield 57, 3) := by decide +kernel
theorem dc_MD_broken_166 : decode prog_9_method_40_code 166 = .ok (.iconst (-1), 1) := by decide +kernel
theorem dc_MD_broken_167 : decode prog_9_method_40_code 167 = .ok (.if_icmp .eq 19, 3) := by decide +kernel
theorem dc_MD_broken_170 : decode prog_9_method_40_code 170 = .ok (.iload_n 3, 1) := by decide +kernel
theorem dc_MD_broken_171 : decode prog_9_method_40_code 171 = .ok (.aload_n 0, 1) := by decide +kernel
theorem dc_MD_broken_172 : decode prog_9_method_40_code 172 = .ok (.getfield 57, 3) := by decide +kernel
theorem dc_MD_broken_175 : decode prog_9_method_40_code 175 = .ok (.iconst (-1), 1) := by decide +kernel
theorem dc_MD_broken_176 : decode prog_9_method_40_code 176 = .ok (.ixor, 1) := by decide +kernel
theorem dc_MD_broken_177 : decode prog_9_method_40_code 177 = .ok (.iand, 1) := by decide +kernel
theorem dc_MD_broken_178 : decode prog_9_method_40_code 178 = .ok (.ifCond .eq 8, 3) := by decide +kernel
theorem dc_MD_broken_181 : decode prog_9_method_40_code 181 = .ok (.bipush 9, 2) := by decide +kernel
theorem dc_MD_broken_183 : decode prog_9_method_40_code 183 = .ok (.goto 4, 3) := by decide +kernel
theorem dc_MD_broken_186 : decode prog_9_method_40_code 186 = .ok (.iconst 0, 1) := by decide +kernel
theorem dc_MD_broken_187 : decode prog_9_method_40_code 187 = .ok (.ireturn, 1) := by decide +kernel
theorem dc_MD_broken_188 : decode prog_9_method_40_code 188 = .ok (.aload_n 0, 1) := by decide +kernel
theorem dc_MD_broken_189 : decode prog_9_method_40_code 189 = .ok (.getfield 60, 3) := by decide +kernel
theorem dc_MD_broken_192 : decode prog_9_method_40_code 192 = .ok (.ifCond .eq 10, 3) := by decide +kernel
theorem dc_MD_broken_195 : decode prog_9_method_40_code 195 = .ok (.aload_n 0, 1) := by decide +kernel
theorem dc_MD_broken_196 : decode prog_9_method_40_code 196 = .ok (.getfield 67, 3) := by decide +kernel
theorem dc_MD_broken_199 : decode prog_9_method_40_code 199 = .ok (.ifCond .ne 6, 3) := by decide +kernel
theorem dc_MD_broken_202 : decode prog_9_method_40_code 202 = .ok (.bipush 6, 2) := by decide +kernel
theorem dc_MD_broken_204 : decode prog_9_method_40_code 204 = .ok (.ireturn, 1) := by decide +kernel
theorem dc_MD_broken_205 : decode prog_9_method_40_code 205 = .ok (.iload 6, 2) := by decide +kernel
theorem dc_MD_broken_207 : decode prog_9_method_40_code 207 = .ok (.ifCond .ne 13, 3) := by decide +kernel
theorem dc_MD_broken_210 : decode prog_9_method_40_code 210 = .ok (.aload_n 0, 1) := by decide +kernel
theorem dc_MD_broken_211 : decode prog_9_method_40_code 211 = .ok (.getfield 219, 3) := by decide +kernel
theorem dc_MD_broken_214 : decode prog_9_method_40_code 214 = .ok (.ifCond .gt 6, 3) := by decide +kernel
theorem dc_MD_broken_217 : decode prog_9_method_40_code 217 = .ok (.bipush 7, 2) := by decide +kernel
theorem dc_MD_broken_219 : decode prog_9_method_40_code 219 = .ok (.ireturn, 1) := by decide +kernel
theorem dc_MD_broken_220 : decode prog_9_method_40_code 220 = .ok (.aload_n 0, 1) := by decide +kernel
theorem dc_MD_broken_221 : decode prog_9_method_40_code 221 = .ok (.iload 6, 2) := by decide +kernel
theorem dc_MD_broken_223 : decode prog_9_method_40_code 223 = .ok (.ifCond .eq 10, 3) := by decide +kernel
theorem dc_MD_broken_226 : decode prog_9_method_40_code 226 = .ok (.aload_n 0, 1) := by decide +kernel
theorem dc_MD_broken_227 : decode prog_9_method_40_code 227 = .ok (.getfield 219, 3) := by decide +kernel
theorem dc_MD_broken_230 : decode prog_9_method_40_code 230 = .ok (.goto 9, 3) := by decide +kernel
theorem dc_MD_broken_233 : decode prog_9_method_40_code 233 = .ok (.aload_n 0, 1) := by decide +kernel
theorem dc_MD_broken_234 : decode prog_9_method_40_code 234 = .ok (.getfield 219, 3) := by decide +kernel
theorem dc_MD_broken_237 : decode prog_9_method_40_code 237 = .ok (.iconst 1, 1) := by decide +kernel
theorem dc_MD_broken_238 : decode prog_9_method_40_code 238 = .ok (.isub, 1) := by decide +kernel
theorem dc_MD_broken_239 : decode prog_9_method_40_code 239 = .ok (.putfield 219, 3) := by decide +kernel
theorem dc_MD_broken_242 : decode prog_9_method_40_code 242 = .ok (.aload_n 0, 1) := by decide +kernel
theorem dc_MD_broken_243 : decode prog_9_method_40_code 243 = .ok (.aload_n 0, 1) := by decide +kernel
theorem dc_MD_broken_244 : decode prog_9_method_40_code 244 = .ok (.getfield 74, 3) := by decide +kernel
theorem dc_MD_broken_247 : decode prog_9_method_40_code 247 = .ok (.iconst (-1), 1) := by decide +kernel
theorem dc_MD_broken_248 : decode prog_9_method_40_code 248 = .ok (.if_icmp .eq 21, 3) := by decide +kernel
theorem dc_MD_broken_251 : decode prog_9_method_40_code 251 = .ok (.aload_n 0, 1) := by decide +kernel
theorem dc_MD_broken_252 : decode prog_9_method_40_code 252 = .ok (.getfield 74, 3) := by decide +kernel
theorem dc_MD_broken_255 : decode prog_9_method_40_code 255 = .ok (.aload_n 0, 1) := by decide +kernel
theorem dc_MD_broken_256 : decode prog_9_method_40_code 256 = .ok (.getfield 219, 3) := by decide +kernel
theorem dc_MD_broken_259 : decode prog_9_method_40_code 259 = .ok (.if_icmp .ge 10, 3) := by decide +kernel
theorem dc_MD_broken_262 : decode prog_9_method_40_code 262 = .ok (.aload_n 0, 1) := by decide +kernel
theorem dc_MD_broken_263 : decode prog_9_method_40_code 263 = .ok (.getfield 74, 3) := by decide +kernel
theorem dc_MD_broken_266 : decode prog_9_method_40_code 266 = .ok (.goto 7, 3) := by decide +kernel
theorem dc_MD_broken_269 : decode prog_9_method_40_code 269 = .ok (.aload_n 0, 1) := by decide +kernel
theorem dc_MD_broken_270 : decode prog_9_method_40_code 270 = .ok (.getfield 219, 3) := by decide +kernel
theorem dc_MD_broken_273 : decode prog_9_method_40_code 273 = .ok (.putfield 219, 3) := by decide +kernel
theorem dc_MD_broken_276 : decode prog_9_method_40_code 276 = .ok (.aload_n 0, 1) := by decide +kernel
theorem dc_MD_broken_277 : decode prog_9_method_40_code 277 = .ok (.getfield 57, 3) := by decide +kernel
theorem dc_MD_broken_280 : decode prog_9_method_40_code 280 = .ok (.iconst (-1), 1) := by decide +kernel
theorem dc_MD_broken_281 : decode prog_9_method_40_code 281 = .ok (.if_icmp .eq 17, 3) := by decide +kernel
theorem dc_MD_broken_284 : decode prog_9_method_40_code 284 = .ok (.aload_n 0, 1) := by decide +kernel
theorem dc_MD_broken_285 : decode prog_9_method_40_code 285 = .ok (.getfield 57, 3) := by decide +kernel
theorem dc_MD_broken_288 : decode prog_9_method_40_code 288 = .ok (.iconst 5, 1) := by decide +kernel
theorem dc_MD_broken_289 : decode prog_9_method_40_code 289 = .ok (.ishr, 1) := by decide +kernel
theorem dc_MD_broken_290 : decode prog_9_method_40_code 290 = .ok (.iconst 1, 1) := by decide +kernel
theorem dc_MD_broken_291 : decode prog_9_method_40_code 291 = .ok (.iand, 1) := by decide +kernel
theorem dc_MD_broken_292 : decode prog_9_method_40_code 292 = .ok (.ifCond .ne 6, 3) := by decide +kernel
theorem dc_MD_broken_295 : decode prog_9_method_40_code 295 = .ok (.bipush 8, 2) := by decide +kernel
theorem dc_MD_broken_297 : decode prog_9_method_40_code 297 = .ok (.ireturn, 1) := by decide +kernel
theorem dc_MD_broken_298 : decode prog_9_method_40_code 298 = .ok (.aload_n 0, 1) := by decide +kernel
theorem dc_MD_broken_299 : decode prog_9_method_40_code 299 = .ok (.invokevirtual 222, 3) := by decide +kernel
theorem dc_MD_broken_302 : decode prog_9_method_40_code 302 = .ok (.iconst 0, 1) := by decide +kernel
theorem dc_MD_broken_303 : decode prog_9_method_40_code 303 = .ok (.ireturn, 1) := by decide +kernel
theorem dc_MD_check_0 : decode prog_9_method_41_code 0 = .ok (.aload_n 0, 1) := by decide +kernel
theorem dc_MD_check_1 : decode prog_9_method_41_code 1 = .ok (.iload_n 1, 1) := by decide +kernel
theorem dc_MD_check_2 : decode prog_9_method_41_code 2 = .ok (.invokevirtual 177, 3) := by decide +kernel
theorem dc_MD_check_5 : decode prog_9_method_41_code 5 = .ok (.ifCond .eq 29, 3) := by decide +kernel
theorem dc_MD_check_8 : decode prog_9_method_41_code 8 = .ok (.aload_n 0, 1) := by decide +kernel
theorem dc_MD_check_9 : decode prog_9_method_41_code 9 = .ok (.getfield 190, 3) := by decide +kernel
theorem dc_MD_check_12 : decode prog_9_method_41_code 12 = .ok (.ifCond .eq 22, 3) := by decide +kernel
theorem dc_MD_check_15 : decode prog_9_method_41_code 15 = .ok (.iload_n 3, 1) := by decide +kernel
theorem dc_MD_check_16 : decode prog_9_method_41_code 16 = .ok (.ifCond .lt 18, 3) := by decide +kernel
theorem dc_MD_check_19 : decode prog_9_method_41_code 19 = .ok (.iload_n 3, 1) := by decide +kernel
theorem dc_MD_check_20 : decode prog_9_method_41_code 20 = .ok (.sipush 255, 3) := by decide +kernel
theorem dc_MD_check_23 : decode prog_9_method_41_code 23 = .ok (.if_icmp .gt 11, 3) := by decide +kernel
theorem dc_MD_check_26 : decode prog_9_method_41_code 26 = .ok (.aload_n 0, 1) := by decide +kernel
theorem dc_MD_check_27 : decode prog_9_method_41_code 27 = .ok (.iload_n 1, 1) := by decide +kernel
theorem dc_MD_check_28 : decode prog_9_method_41_code 28 = .ok (.invokevirtual 183, 3) := by decide +kernel
theorem dc_MD_check_31 : decode prog_9_method_41_code 31 = .ok (.ifCond .ne 5, 3) := by decide +kernel
theorem dc_MD_check_34 : decode prog_9_method_41_code 34 = .ok (.iconst (-1), 1) := by decide +kernel
theorem dc_MD_check_35 : decode prog_9_method_41_code 35 = .ok (.ireturn, 1) := by decide +kernel
theorem dc_MD_check_36 : decode prog_9_method_41_code 36 = .ok (.aload_n 0, 1) := by decide +kernel
theorem dc_MD_check_37 : decode prog_9_method_41_code 37 = .ok (.invokevirtual 222, 3) := by decide +kernel
theorem dc_MD_check_40 : decode prog_9_method_41_code 40 = .ok (.aload_n 0, 1) := by decide +kernel
theorem dc_MD_check_41 : decode prog_9_method_41_code 41 = .ok (.aload_n 0, 1) := by decide +kernel
theorem dc_MD_check_42 : decode prog_9_method_41_code 42 = .ok (.getfield 190, 3) := by decide +kernel
theorem dc_MD_check_45 : decode prog_9_method_41_code 45 = .ok (.putfield 219, 3) := by decide +kernel
theorem dc_MD_check_48 : decode prog_9_method_41_code 48 = .ok (.iconst 0, 1) := by decide +kernel
theorem dc_MD_check_49 : decode prog_9_method_41_code 49 = .ok (.istore 4, 2) := by decide +kernel
theorem dc_MD_check_51 : decode prog_9_method_41_code 51 = .ok (.iload 4, 2) := by decide +kernel
theorem dc_MD_check_53 : decode prog_9_method_41_code 53 = .ok (.aload_n 0, 1) := by decide +kernel
theorem dc_MD_check_54 : decode prog_9_method_41_code 54 = .ok (.getfield 190, 3) := by decide +kernel
theorem dc_MD_check_57 : decode prog_9_method_41_code 57 = .ok (.if_icmp .ge 33, 3) := by decide +kernel
theorem dc_MD_check_60 : decode prog_9_method_41_code 60 = .ok (.aload_n 0, 1) := by decide +kernel
theorem dc_MD_check_61 : decode prog_9_method_41_code 61 = .ok (.iload 4, 2) := by decide +kernel
theorem dc_MD_check_63 : decode prog_9_method_41_code 63 = .ok (.iload_n 2, 1) := by decide +kernel
theorem dc_MD_check_64 : decode prog_9_method_41_code 64 = .ok (.iload_n 3, 1) := by decide +kernel
theorem dc_MD_check_65 : decode prog_9_method_41_code 65 = .ok (.invokevirtual 225, 3) := by decide +kernel
theorem dc_MD_check_68 : decode prog_9_method_41_code 68 = .ok (.istore 5, 2) := by decide +kernel
theorem dc_MD_check_70 : decode prog_9_method_41_code 70 = .ok (.iload 5, 2) := by decide +kernel
theorem dc_MD_check_72 : decode prog_9_method_41_code 72 = .ok (.ifCond .eq 12, 3) := by decide +kernel
theorem dc_MD_check_75 : decode prog_9_method_41_code 75 = .ok (.bipush 16, 2) := by decide +kernel
theorem dc_MD_check_77 : decode prog_9_method_41_code 77 = .ok (.iload 4, 2) := by decide +kernel
theorem dc_MD_check_79 : decode prog_9_method_41_code 79 = .ok (.imul, 1) := by decide +kernel
theorem dc_MD_check_80 : decode prog_9_method_41_code 80 = .ok (.iload 5, 2) := by decide +kernel
theorem dc_MD_check_82 : decode prog_9_method_41_code 82 = .ok (.iadd, 1) := by decide +kernel
theorem dc_MD_check_83 : decode prog_9_method_41_code 83 = .ok (.ireturn, 1) := by decide +kernel
theorem dc_MD_check_84 : decode prog_9_method_41_code 84 = .ok (.iinc 4 1, 3) := by decide +kernel
theorem dc_MD_check_87 : decode prog_9_method_41_code 87 = .ok (.goto (-36), 3) := by decide +kernel
theorem dc_MD_check_90 : decode prog_9_method_41_code 90 = .ok (.iconst 0, 1) := by decide +kernel
theorem dc_MD_check_91 : decode prog_9_method_41_code 91 = .ok (.ireturn, 1) := by decide +kernel
theorem dc_MD_reset_0 : decode prog_9_method_42_code 0 = .ok (.aload_n 0, 1) := by decide +kernel
theorem dc_MD_reset_1 : decode prog_9_method_42_code 1 = .ok (.iconst 0, 1) := by decide +kernel
theorem dc_MD_reset_2 : decode prog_9_method_42_code 2 = .ok (.putfield 174, 3) := by decide +kernel
theorem dc_MD_reset_5 : decode prog_9_method_42_code 5 = .ok (.aload_n 0, 1) := by decide +kernel
theorem dc_MD_reset_6 : decode prog_9_method_42_code 6 = .ok (.iconst 0, 1) := by decide +kernel
theorem dc_MD_reset_7 : decode prog_9_method_42_code 7 = .ok (.putfield 190, 3) := by decide +kernel
theorem dc_MD_reset_10 : decode prog_9_method_42_code 10 = .ok (.return_, 1) := by decide +kernel
end
section
/-! what each instruction is -/
theorem dc_LW_law_0 : decode code 0 = .ok (.new 7, 3) := by decide +kernel
theorem dc_LW_law_3 : decode code 3 = .ok (.dup, 1) := by decide +kernel
theorem dc_LW_law_4 : decode code 4 = .ok (.invokespecial 9, 3) := by decide +kernel
theorem dc_LW_law_7 : decode code 7 = .ok (.astore_n 1, 1) := by decide +kernel
theorem dc_LW_law_8 : decode code 8 = .ok (.new 10, 3) := by decide +kernel
theorem dc_LW_law_11 : decode code 11 = .ok (.dup, 1) := by decide +kernel
theorem dc_LW_law_12 : decode code 12 = .ok (.invokespecial 12, 3) := by decide +kernel
theorem dc_LW_law_15 : decode code 15 = .ok (.astore_n 2, 1) := by decide +kernel
theorem dc_LW_law_16 : decode code 16 = .ok (.iconst 0, 1) := by decide +kernel
theorem dc_LW_law_17 : decode code 17 = .ok (.istore_n 3, 1) := by decide +kernel
theorem dc_LW_law_18 : decode code 18 = .ok (.iload_n 3, 1) := by decide +kernel
theorem dc_LW_law_19 : decode code 19 = .ok (.aload_n 0, 1) := by decide +kernel
theorem dc_LW_law_20 : decode code 20 = .ok (.arraylength, 1) := by decide +kernel
theorem dc_LW_law_21 : decode code 21 = .ok (.iconst 5, 1) := by decide +kernel
theorem dc_LW_law_22 : decode code 22 = .ok (.isub, 1) := by decide +kernel
theorem dc_LW_law_23 : decode code 23 = .ok (.if_icmp .gt 523, 3) := by decide +kernel
theorem dc_LW_law_26 : decode code 26 = .ok (.aload_n 0, 1) := by decide +kernel
theorem dc_LW_law_27 : decode code 27 = .ok (.iload_n 3, 1) := by decide +kernel
theorem dc_LW_law_28 : decode code 28 = .ok (.iaload, 1) := by decide +kernel
theorem dc_LW_law_29 : decode code 29 = .ok (.bipush 15, 2) := by decide +kernel
theorem dc_LW_law_31 : decode code 31 = .ok (.iand, 1) := by decide +kernel
theorem dc_LW_law_32 : decode code 32 = .ok (.tableswitch 508 0 15 #[80, 113, 146, 169, 182, 205, 238, 251, 264, 297, 382, 405, 428, 441, 454, 497], 80) := by decide +kernel
theorem dc_LW_law_112 : decode code 112 = .ok (.aload_n 1, 1) := by decide +kernel
theorem dc_LW_law_113 : decode code 113 = .ok (.aload_n 0, 1) := by decide +kernel
theorem dc_LW_law_114 : decode code 114 = .ok (.iload_n 3, 1) := by decide +kernel
theorem dc_LW_law_115 : decode code 115 = .ok (.iconst 1, 1) := by decide +kernel
theorem dc_LW_law_116 : decode code 116 = .ok (.iadd, 1) := by decide +kernel
theorem dc_LW_law_117 : decode code 117 = .ok (.iaload, 1) := by decide +kernel
theorem dc_LW_law_118 : decode code 118 = .ok (.aload_n 0, 1) := by decide +kernel
theorem dc_LW_law_119 : decode code 119 = .ok (.iload_n 3, 1) := by decide +kernel
theorem dc_LW_law_120 : decode code 120 = .ok (.iconst 2, 1) := by decide +kernel
theorem dc_LW_law_121 : decode code 121 = .ok (.iadd, 1) := by decide +kernel
theorem dc_LW_law_122 : decode code 122 = .ok (.iaload, 1) := by decide +kernel
theorem dc_LW_law_123 : decode code 123 = .ok (.invokevirtual 13, 3) := by decide +kernel
theorem dc_LW_law_126 : decode code 126 = .ok (.aload_n 2, 1) := by decide +kernel
theorem dc_LW_law_127 : decode code 127 = .ok (.aload_n 0, 1) := by decide +kernel
theorem dc_LW_law_128 : decode code 128 = .ok (.iload_n 3, 1) := by decide +kernel
theorem dc_LW_law_129 : decode code 129 = .ok (.iconst 1, 1) := by decide +kernel
theorem dc_LW_law_130 : decode code 130 = .ok (.iadd, 1) := by decide +kernel
theorem dc_LW_law_131 : decode code 131 = .ok (.iaload, 1) := by decide +kernel
theorem dc_LW_law_132 : decode code 132 = .ok (.aload_n 0, 1) := by decide +kernel
theorem dc_LW_law_133 : decode code 133 = .ok (.iload_n 3, 1) := by decide +kernel
theorem dc_LW_law_134 : decode code 134 = .ok (.iconst 2, 1) := by decide +kernel
theorem dc_LW_law_135 : decode code 135 = .ok (.iadd, 1) := by decide +kernel
theorem dc_LW_law_136 : decode code 136 = .ok (.iaload, 1) := by decide +kernel
theorem dc_LW_law_137 : decode code 137 = .ok (.invokevirtual 17, 3) := by decide +kernel
theorem dc_LW_law_140 : decode code 140 = .ok (.if_icmp .eq 400, 3) := by decide +kernel
theorem dc_LW_law_143 : decode code 143 = .ok (.iconst 0, 1) := by decide +kernel
theorem dc_LW_law_144 : decode code 144 = .ok (.ireturn, 1) := by decide +kernel
theorem dc_LW_law_145 : decode code 145 = .ok (.aload_n 1, 1) := by decide +kernel
theorem dc_LW_law_146 : decode code 146 = .ok (.aload_n 0, 1) := by decide +kernel
theorem dc_LW_law_147 : decode code 147 = .ok (.iload_n 3, 1) := by decide +kernel
theorem dc_LW_law_148 : decode code 148 = .ok (.iconst 1, 1) := by decide +kernel
theorem dc_LW_law_149 : decode code 149 = .ok (.iadd, 1) := by decide +kernel
theorem dc_LW_law_150 : decode code 150 = .ok (.iaload, 1) := by decide +kernel
theorem dc_LW_law_151 : decode code 151 = .ok (.aload_n 0, 1) := by decide +kernel
theorem dc_LW_law_152 : decode code 152 = .ok (.iload_n 3, 1) := by decide +kernel
theorem dc_LW_law_153 : decode code 153 = .ok (.iconst 2, 1) := by decide +kernel
theorem dc_LW_law_154 : decode code 154 = .ok (.iadd, 1) := by decide +kernel
theorem dc_LW_law_155 : decode code 155 = .ok (.iaload, 1) := by decide +kernel
theorem dc_LW_law_156 : decode code 156 = .ok (.invokevirtual 18, 3) := by decide +kernel
theorem dc_LW_law_159 : decode code 159 = .ok (.aload_n 2, 1) := by decide +kernel
theorem dc_LW_law_160 : decode code 160 = .ok (.aload_n 0, 1) := by decide +kernel
theorem dc_LW_law_161 : decode code 161 = .ok (.iload_n 3, 1) := by decide +kernel
theorem dc_LW_law_162 : decode code 162 = .ok (.iconst 1, 1) := by decide +kernel
theorem dc_LW_law_163 : decode code 163 = .ok (.iadd, 1) := by decide +kernel
theorem dc_LW_law_164 : decode code 164 = .ok (.iaload, 1) := by decide +kernel
theorem dc_LW_law_165 : decode code 165 = .ok (.aload_n 0, 1) := by decide +kernel
theorem dc_LW_law_166 : decode code 166 = .ok (.iload_n 3, 1) := by decide +kernel
theorem dc_LW_law_167 : decode code 167 = .ok (.iconst 2, 1) := by decide +kernel
theorem dc_LW_law_168 : decode code 168 = .ok (.iadd, 1) := by decide +kernel
theorem dc_LW_law_169 : decode code 169 = .ok (.iaload, 1) := by decide +kernel
theorem dc_LW_law_170 : decode code 170 = .ok (.invokevirtual 21, 3) := by decide +kernel
theorem dc_LW_law_173 : decode code 173 = .ok (.if_icmp .eq 367, 3) := by decide +kernel
theorem dc_LW_law_176 : decode code 176 = .ok (.iconst 0, 1) := by decide +kernel
theorem dc_LW_law_177 : decode code 177 = .ok (.ireturn, 1) := by decide +kernel
theorem dc_LW_law_178 : decode code 178 = .ok (.aload_n 1, 1) := by decide +kernel
theorem dc_LW_law_179 : decode code 179 = .ok (.aload_n 0, 1) := by decide +kernel
theorem dc_LW_law_180 : decode code 180 = .ok (.iload_n 3, 1) := by decide +kernel
theorem dc_LW_law_181 : decode code 181 = .ok (.iconst 1, 1) := by decide +kernel
theorem dc_LW_law_182 : decode code 182 = .ok (.iadd, 1) := by decide +kernel
theorem dc_LW_law_183 : decode code 183 = .ok (.iaload, 1) := by decide +kernel
theorem dc_LW_law_184 : decode code 184 = .ok (.invokevirtual 22, 3) := by decide +kernel
theorem dc_LW_law_187 : decode code 187 = .ok (.aload_n 2, 1) := by decide +kernel
theorem dc_LW_law_188 : decode code 188 = .ok (.aload_n 0, 1) := by decide +kernel
theorem dc_LW_law_189 : decode code 189 = .ok (.iload_n 3, 1) := by decide +kernel
theorem dc_LW_law_190 : decode code 190 = .ok (.iconst 1, 1) := by decide +kernel
theorem dc_LW_law_191 : decode code 191 = .ok (.iadd, 1) := by decide +kernel
theorem dc_LW_law_192 : decode code 192 = .ok (.iaload, 1) := by decide +kernel
theorem dc_LW_law_193 : decode code 193 = .ok (.invokevirtual 26, 3) := by decide +kernel
theorem dc_LW_law_196 : decode code 196 = .ok (.if_icmp .eq 344, 3) := by decide +kernel
theorem dc_LW_law_199 : decode code 199 = .ok (.iconst 0, 1) := by decide +kernel
theorem dc_LW_law_200 : decode code 200 = .ok (.ireturn, 1) := by decide +kernel
theorem dc_LW_law_201 : decode code 201 = .ok (.aload_n 1, 1) := by decide +kernel
theorem dc_LW_law_202 : decode code 202 = .ok (.invokevirtual 27, 3) := by decide +kernel
theorem dc_LW_law_205 : decode code 205 = .ok (.aload_n 2, 1) := by decide +kernel
theorem dc_LW_law_206 : decode code 206 = .ok (.invokevirtual 31, 3) := by decide +kernel
theorem dc_LW_law_209 : decode code 209 = .ok (.if_icmp .eq 331, 3) := by decide +kernel
theorem dc_LW_law_212 : decode code 212 = .ok (.iconst 0, 1) := by decide +kernel
theorem dc_LW_law_213 : decode code 213 = .ok (.ireturn, 1) := by decide +kernel
theorem dc_LW_law_214 : decode code 214 = .ok (.aload_n 1, 1) := by decide +kernel
theorem dc_LW_law_215 : decode code 215 = .ok (.aload_n 0, 1) := by decide +kernel
theorem dc_LW_law_216 : decode code 216 = .ok (.iload_n 3, 1) := by decide +kernel
theorem dc_LW_law_217 : decode code 217 = .ok (.iconst 1, 1) := by decide +kernel
theorem dc_LW_law_218 : decode code 218 = .ok (.iadd, 1) := by decide +kernel
theorem dc_LW_law_219 : decode code 219 = .ok (.iaload, 1) := by decide +kernel
theorem dc_LW_law_220 : decode code 220 = .ok (.invokevirtual 32, 3) := by decide +kernel
theorem dc_LW_law_223 : decode code 223 = .ok (.aload_n 2, 1) := by decide +kernel
theorem dc_LW_law_224 : decode code 224 = .ok (.aload_n 0, 1) := by decide +kernel
theorem dc_LW_law_225 : decode code 225 = .ok (.iload_n 3, 1) := by decide +kernel
theorem dc_LW_law_226 : decode code 226 = .ok (.iconst 1, 1) := by decide +kernel
theorem dc_LW_law_227 : decode code 227 = .ok (.iadd, 1) := by decide +kernel
theorem dc_LW_law_228 : decode code 228 = .ok (.iaload, 1) := by decide +kernel
theorem dc_LW_law_229 : decode code 229 = .ok (.invokevirtual 36, 3) := by decide +kernel
theorem dc_LW_law_232 : decode code 232 = .ok (.if_icmp .eq 308, 3) := by decide +kernel
theorem dc_LW_law_235 : decode code 235 = .ok (.iconst 0, 1) := by decide +kernel
theorem dc_LW_law_236 : decode code 236 = .ok (.ireturn, 1) := by decide +kernel
theorem dc_LW_law_237 : decode code 237 = .ok (.aload_n 1, 1) := by decide +kernel
theorem dc_LW_law_238 : decode code 238 = .ok (.aload_n 0, 1) := by decide +kernel
theorem dc_LW_law_239 : decode code 239 = .ok (.iload_n 3, 1) := by decide +kernel
theorem dc_LW_law_240 : decode code 240 = .ok (.iconst 1, 1) := by decide +kernel
theorem dc_LW_law_241 : decode code 241 = .ok (.iadd, 1) := by decide +kernel
theorem dc_LW_law_242 : decode code 242 = .ok (.iaload, 1) := by decide +kernel
theorem dc_LW_law_243 : decode code 243 = .ok (.aload_n 0, 1) := by decide +kernel
theorem dc_LW_law_244 : decode code 244 = .ok (.iload_n 3, 1) := by decide +kernel
theorem dc_LW_law_245 : decode code 245 = .ok (.iconst 2, 1) := by decide +kernel
theorem dc_LW_law_246 : decode code 246 = .ok (.iadd, 1) := by decide +kernel
theorem dc_LW_law_247 : decode code 247 = .ok (.iaload, 1) := by decide +kernel
theorem dc_LW_law_248 : decode code 248 = .ok (.invokevirtual 37, 3) := by decide +kernel
theorem dc_LW_law_251 : decode code 251 = .ok (.aload_n 2, 1) := by decide +kernel
theorem dc_LW_law_252 : decode code 252 = .ok (.aload_n 0, 1) := by decide +kernel
theorem dc_LW_law_253 : decode code 253 = .ok (.iload_n 3, 1) := by decide +kernel
theorem dc_LW_law_254 : decode code 254 = .ok (.iconst 1, 1) := by decide +kernel
theorem dc_LW_law_255 : decode code 255 = .ok (.iadd, 1) := by decide +kernel
theorem dc_LW_law_256 : decode code 256 = .ok (.iaload, 1) := by decide +kernel
theorem dc_LW_law_257 : decode code 257 = .ok (.aload_n 0, 1) := by decide +kernel
theorem dc_LW_law_258 : decode code 258 = .ok (.iload_n 3, 1) := by decide +kernel
theorem dc_LW_law_259 : decode code 259 = .ok (.iconst 2, 1) := by decide +kernel
theorem dc_LW_law_260 : decode code 260 = .ok (.iadd, 1) := by decide +kernel
theorem dc_LW_law_261 : decode code 261 = .ok (.iaload, 1) := by decide +kernel
theorem dc_LW_law_262 : decode code 262 = .ok (.invokevirtual 41, 3) := by decide +kernel
theorem dc_LW_law_265 : decode code 265 = .ok (.if_icmp .eq 275, 3) := by decide +kernel
theorem dc_LW_law_268 : decode code 268 = .ok (.iconst 0, 1) := by decide +kernel
theorem dc_LW_law_269 : decode code 269 = .ok (.ireturn, 1) := by decide +kernel
theorem dc_LW_law_270 : decode code 270 = .ok (.aload_n 1, 1) := by decide +kernel
theorem dc_LW_law_271 : decode code 271 = .ok (.invokevirtual 42, 3) := by decide +kernel
theorem dc_LW_law_274 : decode code 274 = .ok (.aload_n 2, 1) := by decide +kernel
theorem dc_LW_law_275 : decode code 275 = .ok (.invokevirtual 45, 3) := by decide +kernel
theorem dc_LW_law_278 : decode code 278 = .ok (.if_icmp .eq 262, 3) := by decide +kernel
theorem dc_LW_law_281 : decode code 281 = .ok (.iconst 0, 1) := by decide +kernel
theorem dc_LW_law_282 : decode code 282 = .ok (.ireturn, 1) := by decide +kernel
theorem dc_LW_law_283 : decode code 283 = .ok (.aload_n 1, 1) := by decide +kernel
theorem dc_LW_law_284 : decode code 284 = .ok (.invokevirtual 46, 3) := by decide +kernel
theorem dc_LW_law_287 : decode code 287 = .ok (.aload_n 2, 1) := by decide +kernel
theorem dc_LW_law_288 : decode code 288 = .ok (.invokevirtual 49, 3) := by decide +kernel
theorem dc_LW_law_291 : decode code 291 = .ok (.if_icmp .eq 249, 3) := by decide +kernel
theorem dc_LW_law_294 : decode code 294 = .ok (.iconst 0, 1) := by decide +kernel
theorem dc_LW_law_295 : decode code 295 = .ok (.ireturn, 1) := by decide +kernel
theorem dc_LW_law_296 : decode code 296 = .ok (.aload_n 1, 1) := by decide +kernel
theorem dc_LW_law_297 : decode code 297 = .ok (.aload_n 0, 1) := by decide +kernel
theorem dc_LW_law_298 : decode code 298 = .ok (.iload_n 3, 1) := by decide +kernel
theorem dc_LW_law_299 : decode code 299 = .ok (.iconst 1, 1) := by decide +kernel
theorem dc_LW_law_300 : decode code 300 = .ok (.iadd, 1) := by decide +kernel
theorem dc_LW_law_301 : decode code 301 = .ok (.iaload, 1) := by decide +kernel
theorem dc_LW_law_302 : decode code 302 = .ok (.aload_n 0, 1) := by decide +kernel
theorem dc_LW_law_303 : decode code 303 = .ok (.iload_n 3, 1) := by decide +kernel
theorem dc_LW_law_304 : decode code 304 = .ok (.iconst 2, 1) := by decide +kernel
theorem dc_LW_law_305 : decode code 305 = .ok (.iadd, 1) := by decide +kernel
theorem dc_LW_law_306 : decode code 306 = .ok (.iaload, 1) := by decide +kernel
theorem dc_LW_law_307 : decode code 307 = .ok (.invokevirtual 50, 3) := by decide +kernel
theorem dc_LW_law_310 : decode code 310 = .ok (.aload_n 2, 1) := by decide +kernel
theorem dc_LW_law_311 : decode code 311 = .ok (.aload_n 0, 1) := by decide +kernel
theorem dc_LW_law_312 : decode code 312 = .ok (.iload_n 3, 1) := by decide +kernel
theorem dc_LW_law_313 : decode code 313 = .ok (.iconst 1, 1) := by decide +kernel
theorem dc_LW_law_314 : decode code 314 = .ok (.iadd, 1) := by decide +kernel
theorem dc_LW_law_315 : decode code 315 = .ok (.iaload, 1) := by decide +kernel
theorem dc_LW_law_316 : decode code 316 = .ok (.aload_n 0, 1) := by decide +kernel
theorem dc_LW_law_317 : decode code 317 = .ok (.iload_n 3, 1) := by decide +kernel
theorem dc_LW_law_318 : decode code 318 = .ok (.iconst 2, 1) := by decide +kernel
theorem dc_LW_law_319 : decode code 319 = .ok (.iadd, 1) := by decide +kernel
theorem dc_LW_law_320 : decode code 320 = .ok (.iaload, 1) := by decide +kernel
theorem dc_LW_law_321 : decode code 321 = .ok (.invokevirtual 53, 3) := by decide +kernel
theorem dc_LW_law_324 : decode code 324 = .ok (.if_icmp .eq 216, 3) := by decide +kernel
theorem dc_LW_law_327 : decode code 327 = .ok (.iconst 0, 1) := by decide +kernel
theorem dc_LW_law_328 : decode code 328 = .ok (.ireturn, 1) := by decide +kernel
theorem dc_LW_law_329 : decode code 329 = .ok (.aload_n 1, 1) := by decide +kernel
theorem dc_LW_law_330 : decode code 330 = .ok (.aload_n 0, 1) := by decide +kernel
theorem dc_LW_law_331 : decode code 331 = .ok (.iload_n 3, 1) := by decide +kernel
theorem dc_LW_law_332 : decode code 332 = .ok (.iconst 1, 1) := by decide +kernel
theorem dc_LW_law_333 : decode code 333 = .ok (.iadd, 1) := by decide +kernel
theorem dc_LW_law_334 : decode code 334 = .ok (.iaload, 1) := by decide +kernel
theorem dc_LW_law_335 : decode code 335 = .ok (.aload_n 0, 1) := by decide +kernel
theorem dc_LW_law_336 : decode code 336 = .ok (.iload_n 3, 1) := by decide +kernel
theorem dc_LW_law_337 : decode code 337 = .ok (.iconst 2, 1) := by decide +kernel
theorem dc_LW_law_338 : decode code 338 = .ok (.iadd, 1) := by decide +kernel
theorem dc_LW_law_339 : decode code 339 = .ok (.iaload, 1) := by decide +kernel
theorem dc_LW_law_340 : decode code 340 = .ok (.ifCond .eq 7, 3) := by decide +kernel
theorem dc_LW_law_343 : decode code 343 = .ok (.iconst 1, 1) := by decide +kernel
theorem dc_LW_law_344 : decode code 344 = .ok (.goto 4, 3) := by decide +kernel
theorem dc_LW_law_347 : decode code 347 = .ok (.iconst 0, 1) := by decide +kernel
theorem dc_LW_law_348 : decode code 348 = .ok (.aload_n 0, 1) := by decide +kernel
theorem dc_LW_law_349 : decode code 349 = .ok (.iload_n 3, 1) := by decide +kernel
theorem dc_LW_law_350 : decode code 350 = .ok (.iconst 3, 1) := by decide +kernel
theorem dc_LW_law_351 : decode code 351 = .ok (.iadd, 1) := by decide +kernel
theorem dc_LW_law_352 : decode code 352 = .ok (.iaload, 1) := by decide +kernel
theorem dc_LW_law_353 : decode code 353 = .ok (.aload_n 0, 1) := by decide +kernel
theorem dc_LW_law_354 : decode code 354 = .ok (.iload_n 3, 1) := by decide +kernel
theorem dc_LW_law_355 : decode code 355 = .ok (.iconst 4, 1) := by decide +kernel
theorem dc_LW_law_356 : decode code 356 = .ok (.iadd, 1) := by decide +kernel
theorem dc_LW_law_357 : decode code 357 = .ok (.iaload, 1) := by decide +kernel
theorem dc_LW_law_358 : decode code 358 = .ok (.ifCond .eq 7, 3) := by decide +kernel
theorem dc_LW_law_361 : decode code 361 = .ok (.iconst 1, 1) := by decide +kernel
theorem dc_LW_law_362 : decode code 362 = .ok (.goto 4, 3) := by decide +kernel
theorem dc_LW_law_365 : decode code 365 = .ok (.iconst 0, 1) := by decide +kernel
theorem dc_LW_law_366 : decode code 366 = .ok (.invokevirtual 54, 3) := by decide +kernel
theorem dc_LW_law_369 : decode code 369 = .ok (.aload_n 2, 1) := by decide +kernel
theorem dc_LW_law_370 : decode code 370 = .ok (.aload_n 0, 1) := by decide +kernel
theorem dc_LW_law_371 : decode code 371 = .ok (.iload_n 3, 1) := by decide +kernel
theorem dc_LW_law_372 : decode code 372 = .ok (.iconst 1, 1) := by decide +kernel
theorem dc_LW_law_373 : decode code 373 = .ok (.iadd, 1) := by decide +kernel
theorem dc_LW_law_374 : decode code 374 = .ok (.iaload, 1) := by decide +kernel
theorem dc_LW_law_375 : decode code 375 = .ok (.aload_n 0, 1) := by decide +kernel
theorem dc_LW_law_376 : decode code 376 = .ok (.iload_n 3, 1) := by decide +kernel
theorem dc_LW_law_377 : decode code 377 = .ok (.iconst 2, 1) := by decide +kernel
theorem dc_LW_law_378 : decode code 378 = .ok (.iadd, 1) := by decide +kernel
theorem dc_LW_law_379 : decode code 379 = .ok (.iaload, 1) := by decide +kernel
theorem dc_LW_law_380 : decode code 380 = .ok (.ifCond .eq 7, 3) := by decide +kernel
theorem dc_LW_law_383 : decode code 383 = .ok (.iconst 1, 1) := by decide +kernel
theorem dc_LW_law_384 : decode code 384 = .ok (.goto 4, 3) := by decide +kernel
theorem dc_LW_law_387 : decode code 387 = .ok (.iconst 0, 1) := by decide +kernel
theorem dc_LW_law_388 : decode code 388 = .ok (.aload_n 0, 1) := by decide +kernel
theorem dc_LW_law_389 : decode code 389 = .ok (.iload_n 3, 1) := by decide +kernel
theorem dc_LW_law_390 : decode code 390 = .ok (.iconst 3, 1) := by decide +kernel
theorem dc_LW_law_391 : decode code 391 = .ok (.iadd, 1) := by decide +kernel
theorem dc_LW_law_392 : decode code 392 = .ok (.iaload, 1) := by decide +kernel
theorem dc_LW_law_393 : decode code 393 = .ok (.aload_n 0, 1) := by decide +kernel
theorem dc_LW_law_394 : decode code 394 = .ok (.iload_n 3, 1) := by decide +kernel
theorem dc_LW_law_395 : decode code 395 = .ok (.iconst 4, 1) := by decide +kernel
theorem dc_LW_law_396 : decode code 396 = .ok (.iadd, 1) := by decide +kernel
theorem dc_LW_law_397 : decode code 397 = .ok (.iaload, 1) := by decide +kernel
theorem dc_LW_law_398 : decode code 398 = .ok (.ifCond .eq 7, 3) := by decide +kernel
theorem dc_LW_law_401 : decode code 401 = .ok (.iconst 1, 1) := by decide +kernel
theorem dc_LW_law_402 : decode code 402 = .ok (.goto 4, 3) := by decide +kernel
theorem dc_LW_law_405 : decode code 405 = .ok (.iconst 0, 1) := by decide +kernel
theorem dc_LW_law_406 : decode code 406 = .ok (.invokevirtual 58, 3) := by decide +kernel
theorem dc_LW_law_409 : decode code 409 = .ok (.if_icmp .eq 131, 3) := by decide +kernel
theorem dc_LW_law_412 : decode code 412 = .ok (.iconst 0, 1) := by decide +kernel
theorem dc_LW_law_413 : decode code 413 = .ok (.ireturn, 1) := by decide +kernel
theorem dc_LW_law_414 : decode code 414 = .ok (.aload_n 1, 1) := by decide +kernel
theorem dc_LW_law_415 : decode code 415 = .ok (.aload_n 0, 1) := by decide +kernel
theorem dc_LW_law_416 : decode code 416 = .ok (.iload_n 3, 1) := by decide +kernel
theorem dc_LW_law_417 : decode code 417 = .ok (.iconst 1, 1) := by decide +kernel
theorem dc_LW_law_418 : decode code 418 = .ok (.iadd, 1) := by decide +kernel
theorem dc_LW_law_419 : decode code 419 = .ok (.iaload, 1) := by decide +kernel
theorem dc_LW_law_420 : decode code 420 = .ok (.invokevirtual 59, 3) := by decide +kernel
theorem dc_LW_law_423 : decode code 423 = .ok (.aload_n 2, 1) := by decide +kernel
theorem dc_LW_law_424 : decode code 424 = .ok (.aload_n 0, 1) := by decide +kernel
theorem dc_LW_law_425 : decode code 425 = .ok (.iload_n 3, 1) := by decide +kernel
theorem dc_LW_law_426 : decode code 426 = .ok (.iconst 1, 1) := by decide +kernel
theorem dc_LW_law_427 : decode code 427 = .ok (.iadd, 1) := by decide +kernel
theorem dc_LW_law_428 : decode code 428 = .ok (.iaload, 1) := by decide +kernel
theorem dc_LW_law_429 : decode code 429 = .ok (.invokevirtual 62, 3) := by decide +kernel
theorem dc_LW_law_432 : decode code 432 = .ok (.if_icmp .eq 108, 3) := by decide +kernel
theorem dc_LW_law_435 : decode code 435 = .ok (.iconst 0, 1) := by decide +kernel
theorem dc_LW_law_436 : decode code 436 = .ok (.ireturn, 1) := by decide +kernel
theorem dc_LW_law_437 : decode code 437 = .ok (.aload_n 1, 1) := by decide +kernel
theorem dc_LW_law_438 : decode code 438 = .ok (.aload_n 0, 1) := by decide +kernel
theorem dc_LW_law_439 : decode code 439 = .ok (.iload_n 3, 1) := by decide +kernel
theorem dc_LW_law_440 : decode code 440 = .ok (.iconst 1, 1) := by decide +kernel
theorem dc_LW_law_441 : decode code 441 = .ok (.iadd, 1) := by decide +kernel
theorem dc_LW_law_442 : decode code 442 = .ok (.iaload, 1) := by decide +kernel
theorem dc_LW_law_443 : decode code 443 = .ok (.invokevirtual 63, 3) := by decide +kernel
theorem dc_LW_law_446 : decode code 446 = .ok (.aload_n 2, 1) := by decide +kernel
theorem dc_LW_law_447 : decode code 447 = .ok (.aload_n 0, 1) := by decide +kernel
theorem dc_LW_law_448 : decode code 448 = .ok (.iload_n 3, 1) := by decide +kernel
theorem dc_LW_law_449 : decode code 449 = .ok (.iconst 1, 1) := by decide +kernel
theorem dc_LW_law_450 : decode code 450 = .ok (.iadd, 1) := by decide +kernel
theorem dc_LW_law_451 : decode code 451 = .ok (.iaload, 1) := by decide +kernel
theorem dc_LW_law_452 : decode code 452 = .ok (.invokevirtual 66, 3) := by decide +kernel
theorem dc_LW_law_455 : decode code 455 = .ok (.if_icmp .eq 85, 3) := by decide +kernel
theorem dc_LW_law_458 : decode code 458 = .ok (.iconst 0, 1) := by decide +kernel
theorem dc_LW_law_459 : decode code 459 = .ok (.ireturn, 1) := by decide +kernel
theorem dc_LW_law_460 : decode code 460 = .ok (.aload_n 1, 1) := by decide +kernel
theorem dc_LW_law_461 : decode code 461 = .ok (.invokevirtual 67, 3) := by decide +kernel
theorem dc_LW_law_464 : decode code 464 = .ok (.aload_n 2, 1) := by decide +kernel
theorem dc_LW_law_465 : decode code 465 = .ok (.invokevirtual 71, 3) := by decide +kernel
theorem dc_LW_law_468 : decode code 468 = .ok (.if_icmp .eq 72, 3) := by decide +kernel
theorem dc_LW_law_471 : decode code 471 = .ok (.iconst 0, 1) := by decide +kernel
theorem dc_LW_law_472 : decode code 472 = .ok (.ireturn, 1) := by decide +kernel
theorem dc_LW_law_473 : decode code 473 = .ok (.aload_n 1, 1) := by decide +kernel
theorem dc_LW_law_474 : decode code 474 = .ok (.invokevirtual 72, 3) := by decide +kernel
theorem dc_LW_law_477 : decode code 477 = .ok (.aload_n 2, 1) := by decide +kernel
theorem dc_LW_law_478 : decode code 478 = .ok (.invokevirtual 75, 3) := by decide +kernel
theorem dc_LW_law_481 : decode code 481 = .ok (.if_icmp .eq 59, 3) := by decide +kernel
theorem dc_LW_law_484 : decode code 484 = .ok (.iconst 0, 1) := by decide +kernel
theorem dc_LW_law_485 : decode code 485 = .ok (.ireturn, 1) := by decide +kernel
theorem dc_LW_law_486 : decode code 486 = .ok (.aload_n 1, 1) := by decide +kernel
theorem dc_LW_law_487 : decode code 487 = .ok (.aload_n 0, 1) := by decide +kernel
theorem dc_LW_law_488 : decode code 488 = .ok (.iload_n 3, 1) := by decide +kernel
theorem dc_LW_law_489 : decode code 489 = .ok (.iconst 1, 1) := by decide +kernel
theorem dc_LW_law_490 : decode code 490 = .ok (.iadd, 1) := by decide +kernel
theorem dc_LW_law_491 : decode code 491 = .ok (.iaload, 1) := by decide +kernel
theorem dc_LW_law_492 : decode code 492 = .ok (.aload_n 0, 1) := by decide +kernel
theorem dc_LW_law_493 : decode code 493 = .ok (.iload_n 3, 1) := by decide +kernel
theorem dc_LW_law_494 : decode code 494 = .ok (.iconst 2, 1) := by decide +kernel
theorem dc_LW_law_495 : decode code 495 = .ok (.iadd, 1) := by decide +kernel
theorem dc_LW_law_496 : decode code 496 = .ok (.iaload, 1) := by decide +kernel
theorem dc_LW_law_497 : decode code 497 = .ok (.aload_n 0, 1) := by decide +kernel
theorem dc_LW_law_498 : decode code 498 = .ok (.iload_n 3, 1) := by decide +kernel
theorem dc_LW_law_499 : decode code 499 = .ok (.iconst 3, 1) := by decide +kernel
theorem dc_LW_law_500 : decode code 500 = .ok (.iadd, 1) := by decide +kernel
theorem dc_LW_law_501 : decode code 501 = .ok (.iaload, 1) := by decide +kernel
theorem dc_LW_law_502 : decode code 502 = .ok (.invokevirtual 76, 3) := by decide +kernel
theorem dc_LW_law_505 : decode code 505 = .ok (.aload_n 2, 1) := by decide +kernel
theorem dc_LW_law_506 : decode code 506 = .ok (.aload_n 0, 1) := by decide +kernel
theorem dc_LW_law_507 : decode code 507 = .ok (.iload_n 3, 1) := by decide +kernel
theorem dc_LW_law_508 : decode code 508 = .ok (.iconst 1, 1) := by decide +kernel
theorem dc_LW_law_509 : decode code 509 = .ok (.iadd, 1) := by decide +kernel
theorem dc_LW_law_510 : decode code 510 = .ok (.iaload, 1) := by decide +kernel
theorem dc_LW_law_511 : decode code 511 = .ok (.aload_n 0, 1) := by decide +kernel
theorem dc_LW_law_512 : decode code 512 = .ok (.iload_n 3, 1) := by decide +kernel
theorem dc_LW_law_513 : decode code 513 = .ok (.iconst 2, 1) := by decide +kernel
theorem dc_LW_law_514 : decode code 514 = .ok (.iadd, 1) := by decide +kernel
theorem dc_LW_law_515 : decode code 515 = .ok (.iaload, 1) := by decide +kernel
theorem dc_LW_law_516 : decode code 516 = .ok (.aload_n 0, 1) := by decide +kernel
theorem dc_LW_law_517 : decode code 517 = .ok (.iload_n 3, 1) := by decide +kernel
theorem dc_LW_law_518 : decode code 518 = .ok (.iconst 3, 1) := by decide +kernel
theorem dc_LW_law_519 : decode code 519 = .ok (.iadd, 1) := by decide +kernel
theorem dc_LW_law_520 : decode code 520 = .ok (.iaload, 1) := by decide +kernel
theorem dc_LW_law_521 : decode code 521 = .ok (.invokevirtual 80, 3) := by decide +kernel
theorem dc_LW_law_524 : decode code 524 = .ok (.if_icmp .eq 16, 3) := by decide +kernel
theorem dc_LW_law_527 : decode code 527 = .ok (.iconst 0, 1) := by decide +kernel
theorem dc_LW_law_528 : decode code 528 = .ok (.ireturn, 1) := by decide +kernel
theorem dc_LW_law_529 : decode code 529 = .ok (.aload_n 1, 1) := by decide +kernel
theorem dc_LW_law_530 : decode code 530 = .ok (.invokevirtual 81, 3) := by decide +kernel
theorem dc_LW_law_533 : decode code 533 = .ok (.aload_n 2, 1) := by decide +kernel
theorem dc_LW_law_534 : decode code 534 = .ok (.invokevirtual 84, 3) := by decide +kernel
theorem dc_LW_law_537 : decode code 537 = .ok (.goto 3, 3) := by decide +kernel
theorem dc_LW_law_540 : decode code 540 = .ok (.iinc 3 5, 3) := by decide +kernel
theorem dc_LW_law_543 : decode code 543 = .ok (.goto (-525), 3) := by decide +kernel
theorem dc_LW_law_546 : decode code 546 = .ok (.iconst 1, 1) := by decide +kernel
theorem dc_LW_law_547 : decode code 547 = .ok (.ireturn, 1) := by decide +kernel
end
section
/-- a private method of a class that the tables say can be made, by its rows of tables_1 -/
def lw_okq (q : MethodName × Nat) : Prop := (q.1.cls ≠ "java/lang/invoke/MethodHandle" ∧ q.1.cls ≠ "java/lang/invoke/VarHandle") ∧ Cond.instantiable q.1.cls q.2 ∈ tables_1 ∧ Cond.privateMethod q.1 ∈ tables_1 ∧ Cond.instanceMethod q.1 ∈ tables_1
theorem lw_p0 : lw_okq (⟨"CertificatePath$Certificate", "forgetExtensions", "()V"⟩, 16) := ⟨⟨by decide +kernel, by decide +kernel⟩, List.mem_of_getElem? (i := 61) (by decide +kernel), List.mem_of_getElem? (i := 121) (by decide +kernel), List.mem_of_getElem? (i := 122) (by decide +kernel)⟩
theorem lw_p1 : lw_okq (⟨"CertificatePath$Certificate", "readHead", "(LCertificatePath$Reader;)V"⟩, 16) := ⟨⟨by decide +kernel, by decide +kernel⟩, List.mem_of_getElem? (i := 61) (by decide +kernel), List.mem_of_getElem? (i := 252) (by decide +kernel), List.mem_of_getElem? (i := 253) (by decide +kernel)⟩
theorem lw_p2 : lw_okq (⟨"CertificatePath$Certificate", "readExtension", "(LCertificatePath$Reader;LCertificatePath$Extension;)V"⟩, 16) := ⟨⟨by decide +kernel, by decide +kernel⟩, List.mem_of_getElem? (i := 61) (by decide +kernel), List.mem_of_getElem? (i := 292) (by decide +kernel), List.mem_of_getElem? (i := 293) (by decide +kernel)⟩
theorem lw_p3 : lw_okq (⟨"CertificatePath$Certificate", "hasExtension", "(I)Z"⟩, 16) := ⟨⟨by decide +kernel, by decide +kernel⟩, List.mem_of_getElem? (i := 61) (by decide +kernel), List.mem_of_getElem? (i := 296) (by decide +kernel), List.mem_of_getElem? (i := 297) (by decide +kernel)⟩
theorem lw_p4 : lw_okq (⟨"CertificatePath$Certificate", "readBasic", "(LCertificatePath$Reader;)V"⟩, 16) := ⟨⟨by decide +kernel, by decide +kernel⟩, List.mem_of_getElem? (i := 61) (by decide +kernel), List.mem_of_getElem? (i := 306) (by decide +kernel), List.mem_of_getElem? (i := 307) (by decide +kernel)⟩
theorem lw_p5 : lw_okq (⟨"CertificatePath$Certificate", "readUsage", "(LCertificatePath$Reader;)V"⟩, 16) := ⟨⟨by decide +kernel, by decide +kernel⟩, List.mem_of_getElem? (i := 61) (by decide +kernel), List.mem_of_getElem? (i := 311) (by decide +kernel), List.mem_of_getElem? (i := 312) (by decide +kernel)⟩
theorem lw_p6 : lw_okq (⟨"CertificatePath$Certificate", "readBounds", "(LCertificatePath$Reader;)V"⟩, 16) := ⟨⟨by decide +kernel, by decide +kernel⟩, List.mem_of_getElem? (i := 61) (by decide +kernel), List.mem_of_getElem? (i := 322) (by decide +kernel), List.mem_of_getElem? (i := 323) (by decide +kernel)⟩
theorem lw_p7 : lw_okq (⟨"CertificatePath", "isKept", "(I)Z"⟩, 6) := ⟨⟨by decide +kernel, by decide +kernel⟩, List.mem_of_getElem? (i := 10) (by decide +kernel), List.mem_of_getElem? (i := 359) (by decide +kernel), List.mem_of_getElem? (i := 360) (by decide +kernel)⟩
theorem lw_p8 : lw_okq (⟨"CertificatePath", "nameOf", "(IZ)LCertificatePath$Name;"⟩, 6) := ⟨⟨by decide +kernel, by decide +kernel⟩, List.mem_of_getElem? (i := 10) (by decide +kernel), List.mem_of_getElem? (i := 371) (by decide +kernel), List.mem_of_getElem? (i := 372) (by decide +kernel)⟩
theorem lw_p9 : lw_okq (⟨"CertificatePath$Certificate", "writeHead", "(LCertificatePath$ByteRow;)V"⟩, 16) := ⟨⟨by decide +kernel, by decide +kernel⟩, List.mem_of_getElem? (i := 61) (by decide +kernel), List.mem_of_getElem? (i := 388) (by decide +kernel), List.mem_of_getElem? (i := 389) (by decide +kernel)⟩
theorem lw_p10 : lw_okq (⟨"CertificatePath$Certificate", "writeExtension", "(LCertificatePath$ByteRow;LCertificatePath$Extension;)V"⟩, 16) := ⟨⟨by decide +kernel, by decide +kernel⟩, List.mem_of_getElem? (i := 61) (by decide +kernel), List.mem_of_getElem? (i := 408) (by decide +kernel), List.mem_of_getElem? (i := 409) (by decide +kernel)⟩
theorem lw_p11 : lw_okq (⟨"CertificatePath$Certificate", "writeBasic", "(LCertificatePath$ByteRow;)V"⟩, 16) := ⟨⟨by decide +kernel, by decide +kernel⟩, List.mem_of_getElem? (i := 61) (by decide +kernel), List.mem_of_getElem? (i := 416) (by decide +kernel), List.mem_of_getElem? (i := 417) (by decide +kernel)⟩
theorem lw_p12 : lw_okq (⟨"CertificatePath$Certificate", "writeUsage", "(LCertificatePath$ByteRow;)V"⟩, 16) := ⟨⟨by decide +kernel, by decide +kernel⟩, List.mem_of_getElem? (i := 61) (by decide +kernel), List.mem_of_getElem? (i := 420) (by decide +kernel), List.mem_of_getElem? (i := 421) (by decide +kernel)⟩
theorem lw_p13 : lw_okq (⟨"CertificatePath$Certificate", "writeBounds", "(LCertificatePath$ByteRow;)V"⟩, 16) := ⟨⟨by decide +kernel, by decide +kernel⟩, List.mem_of_getElem? (i := 61) (by decide +kernel), List.mem_of_getElem? (i := 424) (by decide +kernel), List.mem_of_getElem? (i := 425) (by decide +kernel)⟩
theorem lw_p14 : lw_okq (⟨"CertificatePath", "brokenAnywhere", "(LCertificatePath$Certificate;II)I"⟩, 6) := ⟨⟨by decide +kernel, by decide +kernel⟩, List.mem_of_getElem? (i := 10) (by decide +kernel), List.mem_of_getElem? (i := 456) (by decide +kernel), List.mem_of_getElem? (i := 457) (by decide +kernel)⟩
theorem lw_p15 : lw_okq (⟨"CertificatePath", "isWithinBoundsBefore", "(I)Z"⟩, 6) := ⟨⟨by decide +kernel, by decide +kernel⟩, List.mem_of_getElem? (i := 10) (by decide +kernel), List.mem_of_getElem? (i := 474) (by decide +kernel), List.mem_of_getElem? (i := 475) (by decide +kernel)⟩
def lw_privs_1 : List (MethodName × Nat) := [(⟨"CertificatePath$Certificate", "forgetExtensions", "()V"⟩, 16), (⟨"CertificatePath$Certificate", "readHead", "(LCertificatePath$Reader;)V"⟩, 16), (⟨"CertificatePath$Certificate", "readExtension", "(LCertificatePath$Reader;LCertificatePath$Extension;)V"⟩, 16), (⟨"CertificatePath$Certificate", "hasExtension", "(I)Z"⟩, 16), (⟨"CertificatePath$Certificate", "readBasic", "(LCertificatePath$Reader;)V"⟩, 16), (⟨"CertificatePath$Certificate", "readUsage", "(LCertificatePath$Reader;)V"⟩, 16), (⟨"CertificatePath$Certificate", "readBounds", "(LCertificatePath$Reader;)V"⟩, 16), (⟨"CertificatePath", "isKept", "(I)Z"⟩, 6), (⟨"CertificatePath", "nameOf", "(IZ)LCertificatePath$Name;"⟩, 6), (⟨"CertificatePath$Certificate", "writeHead", "(LCertificatePath$ByteRow;)V"⟩, 16), (⟨"CertificatePath$Certificate", "writeExtension", "(LCertificatePath$ByteRow;LCertificatePath$Extension;)V"⟩, 16), (⟨"CertificatePath$Certificate", "writeBasic", "(LCertificatePath$ByteRow;)V"⟩, 16), (⟨"CertificatePath$Certificate", "writeUsage", "(LCertificatePath$ByteRow;)V"⟩, 16), (⟨"CertificatePath$Certificate", "writeBounds", "(LCertificatePath$ByteRow;)V"⟩, 16), (⟨"CertificatePath", "brokenAnywhere", "(LCertificatePath$Certificate;II)I"⟩, 6), (⟨"CertificatePath", "isWithinBoundsBefore", "(I)Z"⟩, 6)]
theorem lw_r1 : ∀ q ∈ lw_privs_1, lw_okq q := List.forall_mem_cons.mpr ⟨lw_p0, List.forall_mem_cons.mpr ⟨lw_p1, List.forall_mem_cons.mpr ⟨lw_p2, List.forall_mem_cons.mpr ⟨lw_p3, List.forall_mem_cons.mpr ⟨lw_p4, List.forall_mem_cons.mpr ⟨lw_p5, List.forall_mem_cons.mpr ⟨lw_p6, List.forall_mem_cons.mpr ⟨lw_p7, List.forall_mem_cons.mpr ⟨lw_p8, List.forall_mem_cons.mpr ⟨lw_p9, List.forall_mem_cons.mpr ⟨lw_p10, List.forall_mem_cons.mpr ⟨lw_p11, List.forall_mem_cons.mpr ⟨lw_p12, List.forall_mem_cons.mpr ⟨lw_p13, List.forall_mem_cons.mpr ⟨lw_p14, List.forall_mem_cons.mpr ⟨lw_p15, fun _ h => absurd h List.not_mem_nil⟩⟩⟩⟩⟩⟩⟩⟩⟩⟩⟩⟩⟩⟩⟩⟩
theorem lw_p16 : lw_okq (⟨"CertificatePathModel", "hashed", "(II)I"⟩, 43) := ⟨⟨by decide +kernel, by decide +kernel⟩, List.mem_of_getElem? (i := 512) (by decide +kernel), List.mem_of_getElem? (i := 672) (by decide +kernel), List.mem_of_getElem? (i := 673) (by decide +kernel)⟩
theorem lw_p17 : lw_okq (⟨"CertificatePathModel", "read", "(II)Z"⟩, 43) := ⟨⟨by decide +kernel, by decide +kernel⟩, List.mem_of_getElem? (i := 512) (by decide +kernel), List.mem_of_getElem? (i := 682) (by decide +kernel), List.mem_of_getElem? (i := 683) (by decide +kernel)⟩
theorem lw_p18 : lw_okq (⟨"CertificatePathModel", "enter", "(II)I"⟩, 43) := ⟨⟨by decide +kernel, by decide +kernel⟩, List.mem_of_getElem? (i := 512) (by decide +kernel), List.mem_of_getElem? (i := 686) (by decide +kernel), List.mem_of_getElem? (i := 687) (by decide +kernel)⟩
theorem lw_p19 : lw_okq (⟨"CertificatePathModel", "tagged", "(II)Z"⟩, 43) := ⟨⟨by decide +kernel, by decide +kernel⟩, List.mem_of_getElem? (i := 512) (by decide +kernel), List.mem_of_getElem? (i := 690) (by decide +kernel), List.mem_of_getElem? (i := 691) (by decide +kernel)⟩
theorem lw_p20 : lw_okq (⟨"CertificatePathModel", "body", "(I)V"⟩, 43) := ⟨⟨by decide +kernel, by decide +kernel⟩, List.mem_of_getElem? (i := 512) (by decide +kernel), List.mem_of_getElem? (i := 694) (by decide +kernel), List.mem_of_getElem? (i := 695) (by decide +kernel)⟩
theorem lw_p21 : lw_okq (⟨"CertificatePathModel", "integer", "(I)I"⟩, 43) := ⟨⟨by decide +kernel, by decide +kernel⟩, List.mem_of_getElem? (i := 512) (by decide +kernel), List.mem_of_getElem? (i := 698) (by decide +kernel), List.mem_of_getElem? (i := 699) (by decide +kernel)⟩
theorem lw_p22 : lw_okq (⟨"CertificatePathModel", "name", "(I)V"⟩, 43) := ⟨⟨by decide +kernel, by decide +kernel⟩, List.mem_of_getElem? (i := 512) (by decide +kernel), List.mem_of_getElem? (i := 702) (by decide +kernel), List.mem_of_getElem? (i := 703) (by decide +kernel)⟩
theorem lw_p23 : lw_okq (⟨"CertificatePathModel", "leave", "(I)V"⟩, 43) := ⟨⟨by decide +kernel, by decide +kernel⟩, List.mem_of_getElem? (i := 512) (by decide +kernel), List.mem_of_getElem? (i := 706) (by decide +kernel), List.mem_of_getElem? (i := 707) (by decide +kernel)⟩
theorem lw_p24 : lw_okq (⟨"CertificatePathModel", "key", "(I)V"⟩, 43) := ⟨⟨by decide +kernel, by decide +kernel⟩, List.mem_of_getElem? (i := 512) (by decide +kernel), List.mem_of_getElem? (i := 710) (by decide +kernel), List.mem_of_getElem? (i := 711) (by decide +kernel)⟩
theorem lw_p25 : lw_okq (⟨"CertificatePathModel", "more", "(I)V"⟩, 43) := ⟨⟨by decide +kernel, by decide +kernel⟩, List.mem_of_getElem? (i := 512) (by decide +kernel), List.mem_of_getElem? (i := 714) (by decide +kernel), List.mem_of_getElem? (i := 715) (by decide +kernel)⟩
theorem lw_p26 : lw_okq (⟨"CertificatePathModel", "extension", "(I)V"⟩, 43) := ⟨⟨by decide +kernel, by decide +kernel⟩, List.mem_of_getElem? (i := 512) (by decide +kernel), List.mem_of_getElem? (i := 718) (by decide +kernel), List.mem_of_getElem? (i := 719) (by decide +kernel)⟩
theorem lw_p27 : lw_okq (⟨"CertificatePathModel", "truth", "(I)Z"⟩, 43) := ⟨⟨by decide +kernel, by decide +kernel⟩, List.mem_of_getElem? (i := 512) (by decide +kernel), List.mem_of_getElem? (i := 722) (by decide +kernel), List.mem_of_getElem? (i := 723) (by decide +kernel)⟩
theorem lw_p28 : lw_okq (⟨"CertificatePathModel", "basicContent", "(I)V"⟩, 43) := ⟨⟨by decide +kernel, by decide +kernel⟩, List.mem_of_getElem? (i := 512) (by decide +kernel), List.mem_of_getElem? (i := 726) (by decide +kernel), List.mem_of_getElem? (i := 727) (by decide +kernel)⟩
theorem lw_p29 : lw_okq (⟨"CertificatePathModel", "usageBits", "(I)V"⟩, 43) := ⟨⟨by decide +kernel, by decide +kernel⟩, List.mem_of_getElem? (i := 512) (by decide +kernel), List.mem_of_getElem? (i := 730) (by decide +kernel), List.mem_of_getElem? (i := 731) (by decide +kernel)⟩
theorem lw_p30 : lw_okq (⟨"CertificatePathModel", "bounds", "(I)V"⟩, 43) := ⟨⟨by decide +kernel, by decide +kernel⟩, List.mem_of_getElem? (i := 512) (by decide +kernel), List.mem_of_getElem? (i := 734) (by decide +kernel), List.mem_of_getElem? (i := 735) (by decide +kernel)⟩
theorem lw_p31 : lw_okq (⟨"CertificatePathModel", "names", "(II)I"⟩, 43) := ⟨⟨by decide +kernel, by decide +kernel⟩, List.mem_of_getElem? (i := 512) (by decide +kernel), List.mem_of_getElem? (i := 738) (by decide +kernel), List.mem_of_getElem? (i := 739) (by decide +kernel)⟩
def lw_privs_2 : List (MethodName × Nat) := [(⟨"CertificatePathModel", "hashed", "(II)I"⟩, 43), (⟨"CertificatePathModel", "read", "(II)Z"⟩, 43), (⟨"CertificatePathModel", "enter", "(II)I"⟩, 43), (⟨"CertificatePathModel", "tagged", "(II)Z"⟩, 43), (⟨"CertificatePathModel", "body", "(I)V"⟩, 43), (⟨"CertificatePathModel", "integer", "(I)I"⟩, 43), (⟨"CertificatePathModel", "name", "(I)V"⟩, 43), (⟨"CertificatePathModel", "leave", "(I)V"⟩, 43), (⟨"CertificatePathModel", "key", "(I)V"⟩, 43), (⟨"CertificatePathModel", "more", "(I)V"⟩, 43), (⟨"CertificatePathModel", "extension", "(I)V"⟩, 43), (⟨"CertificatePathModel", "truth", "(I)Z"⟩, 43), (⟨"CertificatePathModel", "basicContent", "(I)V"⟩, 43), (⟨"CertificatePathModel", "usageBits", "(I)V"⟩, 43), (⟨"CertificatePathModel", "bounds", "(I)V"⟩, 43), (⟨"CertificatePathModel", "names", "(II)I"⟩, 43)]
theorem lw_r2 : ∀ q ∈ lw_privs_2, lw_okq q := List.forall_mem_cons.mpr ⟨lw_p16, List.forall_mem_cons.mpr ⟨lw_p17, List.forall_mem_cons.mpr ⟨lw_p18, List.forall_mem_cons.mpr ⟨lw_p19, List.forall_mem_cons.mpr ⟨lw_p20, List.forall_mem_cons.mpr ⟨lw_p21, List.forall_mem_cons.mpr ⟨lw_p22, List.forall_mem_cons.mpr ⟨lw_p23, List.forall_mem_cons.mpr ⟨lw_p24, List.forall_mem_cons.mpr ⟨lw_p25, List.forall_mem_cons.mpr ⟨lw_p26, List.forall_mem_cons.mpr ⟨lw_p27, List.forall_mem_cons.mpr ⟨lw_p28, List.forall_mem_cons.mpr ⟨lw_p29, List.forall_mem_cons.mpr ⟨lw_p30, List.forall_mem_cons.mpr ⟨lw_p31, fun _ h => absurd h List.not_mem_nil⟩⟩⟩⟩⟩⟩⟩⟩⟩⟩⟩⟩⟩⟩⟩⟩
theorem lw_p32 : lw_okq (⟨"CertificatePathModel", "fetch", "(I)Z"⟩, 43) := ⟨⟨by decide +kernel, by decide +kernel⟩, List.mem_of_getElem? (i := 512) (by decide +kernel), List.mem_of_getElem? (i := 750) (by decide +kernel), List.mem_of_getElem? (i := 751) (by decide +kernel)⟩
theorem lw_p33 : lw_okq (⟨"CertificatePathModel", "kept", "(I)Z"⟩, 43) := ⟨⟨by decide +kernel, by decide +kernel⟩, List.mem_of_getElem? (i := 512) (by decide +kernel), List.mem_of_getElem? (i := 754) (by decide +kernel), List.mem_of_getElem? (i := 755) (by decide +kernel)⟩
theorem lw_p34 : lw_okq (⟨"CertificatePathModel", "inside", "(IIII)Z"⟩, 43) := ⟨⟨by decide +kernel, by decide +kernel⟩, List.mem_of_getElem? (i := 512) (by decide +kernel), List.mem_of_getElem? (i := 762) (by decide +kernel), List.mem_of_getElem? (i := 763) (by decide +kernel)⟩
theorem lw_p35 : lw_okq (⟨"CertificatePathModel", "takeKey", "()V"⟩, 43) := ⟨⟨by decide +kernel, by decide +kernel⟩, List.mem_of_getElem? (i := 512) (by decide +kernel), List.mem_of_getElem? (i := 786) (by decide +kernel), List.mem_of_getElem? (i := 787) (by decide +kernel)⟩
theorem lw_p36 : lw_okq (⟨"CertificatePathModel", "broken", "(III)I"⟩, 43) := ⟨⟨by decide +kernel, by decide +kernel⟩, List.mem_of_getElem? (i := 512) (by decide +kernel), List.mem_of_getElem? (i := 790) (by decide +kernel), List.mem_of_getElem? (i := 791) (by decide +kernel)⟩
theorem lw_p37 : lw_okq (⟨"CertificatePathModel", "signedByKey", "()Z"⟩, 43) := ⟨⟨by decide +kernel, by decide +kernel⟩, List.mem_of_getElem? (i := 512) (by decide +kernel), List.mem_of_getElem? (i := 794) (by decide +kernel), List.mem_of_getElem? (i := 795) (by decide +kernel)⟩
theorem lw_p38 : lw_okq (⟨"CertificatePathModel", "equalNames", "(IIII)Z"⟩, 43) := ⟨⟨by decide +kernel, by decide +kernel⟩, List.mem_of_getElem? (i := 512) (by decide +kernel), List.mem_of_getElem? (i := 798) (by decide +kernel), List.mem_of_getElem? (i := 799) (by decide +kernel)⟩
theorem lw_p39 : lw_okq (⟨"CertificatePathModel", "passes", "(III)Z"⟩, 43) := ⟨⟨by decide +kernel, by decide +kernel⟩, List.mem_of_getElem? (i := 512) (by decide +kernel), List.mem_of_getElem? (i := 802) (by decide +kernel), List.mem_of_getElem? (i := 803) (by decide +kernel)⟩
theorem lw_p40 : lw_okq (⟨"CertificatePathModel", "some", "(IIII)Z"⟩, 43) := ⟨⟨by decide +kernel, by decide +kernel⟩, List.mem_of_getElem? (i := 512) (by decide +kernel), List.mem_of_getElem? (i := 806) (by decide +kernel), List.mem_of_getElem? (i := 807) (by decide +kernel)⟩
def lw_privs_3 : List (MethodName × Nat) := [(⟨"CertificatePathModel", "fetch", "(I)Z"⟩, 43), (⟨"CertificatePathModel", "kept", "(I)Z"⟩, 43), (⟨"CertificatePathModel", "inside", "(IIII)Z"⟩, 43), (⟨"CertificatePathModel", "takeKey", "()V"⟩, 43), (⟨"CertificatePathModel", "broken", "(III)I"⟩, 43), (⟨"CertificatePathModel", "signedByKey", "()Z"⟩, 43), (⟨"CertificatePathModel", "equalNames", "(IIII)Z"⟩, 43), (⟨"CertificatePathModel", "passes", "(III)Z"⟩, 43), (⟨"CertificatePathModel", "some", "(IIII)Z"⟩, 43)]
theorem lw_r3 : ∀ q ∈ lw_privs_3, lw_okq q := List.forall_mem_cons.mpr ⟨lw_p32, List.forall_mem_cons.mpr ⟨lw_p33, List.forall_mem_cons.mpr ⟨lw_p34, List.forall_mem_cons.mpr ⟨lw_p35, List.forall_mem_cons.mpr ⟨lw_p36, List.forall_mem_cons.mpr ⟨lw_p37, List.forall_mem_cons.mpr ⟨lw_p38, List.forall_mem_cons.mpr ⟨lw_p39, List.forall_mem_cons.mpr ⟨lw_p40, fun _ h => absurd h List.not_mem_nil⟩⟩⟩⟩⟩⟩⟩⟩⟩
def lw_privs : List (MethodName × Nat) := lw_privs_1 ++ (lw_privs_2 ++ (lw_privs_3))
def lw_tbl : List Cond := k2_sels lw_privs ++ tables_1
theorem lw_privs_ok : ∀ q ∈ lw_privs, lw_okq q := by
  show ∀ q ∈ lw_privs_1 ++ (lw_privs_2 ++ (lw_privs_3)), lw_okq q
  exact List.forall_mem_append.mpr ⟨lw_r1, List.forall_mem_append.mpr ⟨lw_r2, lw_r3⟩⟩
end
section
/-! names: classes and their fields in the order of the slots; methods; the shape of the whole memory -/
def tk_CP : u_T := fun k => match k with
  | 0 => ("CertificatePath", "reader", "LCertificatePath$Reader;", true)
  | 1 => ("CertificatePath", "buffer", "LCertificatePath$ByteRow;", true)
  | 2 => ("CertificatePath", "certificates", "[LCertificatePath$Certificate;", true)
  | 3 => ("CertificatePath", "kept", "I", false)
  | 4 => ("CertificatePath", "path", "[I", true)
  | _ => ("CertificatePath", "linked", "I", false)
def ty_CP : Nat → FieldType := fun k => match k with
  | 0 => .object "CertificatePath$Reader"
  | 1 => .object "CertificatePath$ByteRow"
  | 2 => .array (.object "CertificatePath$Certificate")
  | 3 => .int
  | 4 => .array .int
  | _ => .int
theorem tn_CP : ∀ a, a < 6 → ∀ b, b < 6 → a ≠ b → (tk_CP a).2.1 ≠ (tk_CP b).2.1 := by decide +kernel
theorem to_CP : ∀ k, k < 6 → parseFieldDescriptor (tk_CP k).2.2.1 = some (ty_CP k) := by decide +kernel
def tk_RD : u_T := fun k => match k with
  | 0 => ("CertificatePath$Reader", "row", "LCertificatePath$ByteRow;", true)
  | 1 => ("CertificatePath$Reader", "ends", "[I", true)
  | 2 => ("CertificatePath$Reader", "depth", "I", false)
  | 3 => ("CertificatePath$Reader", "at", "I", false)
  | _ => ("CertificatePath$Reader", "sound", "Z", false)
def ty_RD : Nat → FieldType := fun k => match k with
  | 0 => .object "CertificatePath$ByteRow"
  | 1 => .array .int
  | 2 => .int
  | 3 => .int
  | _ => .boolean
theorem tn_RD : ∀ a, a < 5 → ∀ b, b < 5 → a ≠ b → (tk_RD a).2.1 ≠ (tk_RD b).2.1 := by decide +kernel
theorem to_RD : ∀ k, k < 5 → parseFieldDescriptor (tk_RD k).2.2.1 = some (ty_RD k) := by decide +kernel
def tk_BR : u_T := fun k => match k with
  | 0 => ("CertificatePath$ByteRow", "bytes", "[I", true)
  | _ => ("CertificatePath$ByteRow", "size", "I", false)
def ty_BR : Nat → FieldType := fun k => match k with
  | 0 => .array .int
  | _ => .int
theorem tn_BR : ∀ a, a < 2 → ∀ b, b < 2 → a ≠ b → (tk_BR a).2.1 ≠ (tk_BR b).2.1 := by decide +kernel
theorem to_BR : ∀ k, k < 2 → parseFieldDescriptor (tk_BR k).2.2.1 = some (ty_BR k) := by decide +kernel
def tk_NM : u_T := fun k => match k with
  | 0 => ("CertificatePath$Name", "labels", "[J", true)
  | _ => ("CertificatePath$Name", "size", "I", false)
def ty_NM : Nat → FieldType := fun k => match k with
  | 0 => .array .long
  | _ => .int
theorem tn_NM : ∀ a, a < 2 → ∀ b, b < 2 → a ≠ b → (tk_NM a).2.1 ≠ (tk_NM b).2.1 := by decide +kernel
theorem to_NM : ∀ k, k < 2 → parseFieldDescriptor (tk_NM k).2.2.1 = some (ty_NM k) := by decide +kernel
def tk_NL : u_T := fun k => match k with
  | 0 => ("CertificatePath$NameList", "names", "[LCertificatePath$Name;", true)
  | _ => ("CertificatePath$NameList", "size", "I", false)
def ty_NL : Nat → FieldType := fun k => match k with
  | 0 => .array (.object "CertificatePath$Name")
  | _ => .int
theorem tn_NL : ∀ a, a < 2 → ∀ b, b < 2 → a ≠ b → (tk_NL a).2.1 ≠ (tk_NL b).2.1 := by decide +kernel
theorem to_NL : ∀ k, k < 2 → parseFieldDescriptor (tk_NL k).2.2.1 = some (ty_NL k) := by decide +kernel
def tk_EX : u_T := fun k => match k with
  | 0 => ("CertificatePath$Extension", "number", "I", false)
  | 1 => ("CertificatePath$Extension", "critical", "Z", false)
  | 2 => ("CertificatePath$Extension", "octets", "[I", true)
  | _ => ("CertificatePath$Extension", "size", "I", false)
def ty_EX : Nat → FieldType := fun k => match k with
  | 0 => .int
  | 1 => .boolean
  | 2 => .array .int
  | _ => .int
theorem tn_EX : ∀ a, a < 4 → ∀ b, b < 4 → a ≠ b → (tk_EX a).2.1 ≠ (tk_EX b).2.1 := by decide +kernel
theorem to_EX : ∀ k, k < 4 → parseFieldDescriptor (tk_EX k).2.2.1 = some (ty_EX k) := by decide +kernel
def tk_CT : u_T := fun k => match k with
  | 0 => ("CertificatePath$Certificate", "serial", "I", false)
  | 1 => ("CertificatePath$Certificate", "issuer", "LCertificatePath$Name;", true)
  | 2 => ("CertificatePath$Certificate", "from", "I", false)
  | 3 => ("CertificatePath$Certificate", "to", "I", false)
  | 4 => ("CertificatePath$Certificate", "subject", "LCertificatePath$Name;", true)
  | 5 => ("CertificatePath$Certificate", "modulus", "I", false)
  | 6 => ("CertificatePath$Certificate", "exponent", "I", false)
  | 7 => ("CertificatePath$Certificate", "signature", "I", false)
  | 8 => ("CertificatePath$Certificate", "bodyHash", "I", false)
  | 9 => ("CertificatePath$Certificate", "extensions", "[LCertificatePath$Extension;", true)
  | 10 => ("CertificatePath$Certificate", "extensionCount", "I", false)
  | 11 => ("CertificatePath$Certificate", "authority", "Z", false)
  | 12 => ("CertificatePath$Certificate", "reach", "I", false)
  | 13 => ("CertificatePath$Certificate", "usage", "I", false)
  | 14 => ("CertificatePath$Certificate", "permitted", "LCertificatePath$NameList;", true)
  | _ => ("CertificatePath$Certificate", "excluded", "LCertificatePath$NameList;", true)
def ty_CT : Nat → FieldType := fun k => match k with
  | 0 => .int
  | 1 => .object "CertificatePath$Name"
  | 2 => .int
  | 3 => .int
  | 4 => .object "CertificatePath$Name"
  | 5 => .int
  | 6 => .int
  | 7 => .int
  | 8 => .int
  | 9 => .array (.object "CertificatePath$Extension")
  | 10 => .int
  | 11 => .boolean
  | 12 => .int
  | 13 => .int
  | 14 => .object "CertificatePath$NameList"
  | _ => .object "CertificatePath$NameList"
theorem tn_CT : ∀ a, a < 16 → ∀ b, b < 16 → a ≠ b → (tk_CT a).2.1 ≠ (tk_CT b).2.1 := by decide +kernel
theorem to_CT : ∀ k, k < 16 → parseFieldDescriptor (tk_CT k).2.2.1 = some (ty_CT k) := by decide +kernel
def tk_MD : u_T := fun k => match k with
  | 0 => ("CertificatePathModel", "data", "[I", false)
  | 1 => ("CertificatePathModel", "size", "I", false)
  | 2 => ("CertificatePathModel", "count", "I", false)
  | 3 => ("CertificatePathModel", "sizes", "[I", false)
  | 4 => ("CertificatePathModel", "path", "[I", false)
  | 5 => ("CertificatePathModel", "links", "I", false)
  | 6 => ("CertificatePathModel", "at", "I", false)
  | 7 => ("CertificatePathModel", "wrong", "Z", false)
  | 8 => ("CertificatePathModel", "serial", "I", false)
  | 9 => ("CertificatePathModel", "since", "I", false)
  | 10 => ("CertificatePathModel", "until", "I", false)
  | 11 => ("CertificatePathModel", "modulus", "I", false)
  | 12 => ("CertificatePathModel", "exponent", "I", false)
  | 13 => ("CertificatePathModel", "signature", "I", false)
  | 14 => ("CertificatePathModel", "bodyFrom", "I", false)
  | 15 => ("CertificatePathModel", "bodyTo", "I", false)
  | 16 => ("CertificatePathModel", "nameFrom", "I", false)
  | 17 => ("CertificatePathModel", "nameTo", "I", false)
  | 18 => ("CertificatePathModel", "labels", "I", false)
  | 19 => ("CertificatePathModel", "issuerFrom", "I", false)
  | 20 => ("CertificatePathModel", "issuerTo", "I", false)
  | 21 => ("CertificatePathModel", "issuerLabels", "I", false)
  | 22 => ("CertificatePathModel", "subjectFrom", "I", false)
  | 23 => ("CertificatePathModel", "subjectTo", "I", false)
  | 24 => ("CertificatePathModel", "subjectLabels", "I", false)
  | 25 => ("CertificatePathModel", "extensions", "I", false)
  | 26 => ("CertificatePathModel", "numbers", "[I", false)
  | 27 => ("CertificatePathModel", "strange", "Z", false)
  | 28 => ("CertificatePathModel", "basic", "Z", false)
  | 29 => ("CertificatePathModel", "authority", "Z", false)
  | 30 => ("CertificatePathModel", "reach", "I", false)
  | 31 => ("CertificatePathModel", "usage", "I", false)
  | 32 => ("CertificatePathModel", "permitted", "I", false)
  | 33 => ("CertificatePathModel", "permittedFrom", "I", false)
  | 34 => ("CertificatePathModel", "permittedTo", "I", false)
  | 35 => ("CertificatePathModel", "excluded", "I", false)
  | 36 => ("CertificatePathModel", "excludedFrom", "I", false)
  | 37 => ("CertificatePathModel", "excludedTo", "I", false)
  | 38 => ("CertificatePathModel", "keyModulus", "I", false)
  | 39 => ("CertificatePathModel", "keyExponent", "I", false)
  | 40 => ("CertificatePathModel", "holderFrom", "I", false)
  | 41 => ("CertificatePathModel", "holderTo", "I", false)
  | _ => ("CertificatePathModel", "rest", "I", false)
def ty_MD : Nat → FieldType := fun k => match k with
  | 0 => .array .int
  | 1 => .int
  | 2 => .int
  | 3 => .array .int
  | 4 => .array .int
  | 5 => .int
  | 6 => .int
  | 7 => .boolean
  | 8 => .int
  | 9 => .int
  | 10 => .int
  | 11 => .int
  | 12 => .int
  | 13 => .int
  | 14 => .int
  | 15 => .int
  | 16 => .int
  | 17 => .int
  | 18 => .int
  | 19 => .int
  | 20 => .int
  | 21 => .int
  | 22 => .int
  | 23 => .int
  | 24 => .int
  | 25 => .int
  | 26 => .array .int
  | 27 => .boolean
  | 28 => .boolean
  | 29 => .boolean
  | 30 => .int
  | 31 => .int
  | 32 => .int
  | 33 => .int
  | 34 => .int
  | 35 => .int
  | 36 => .int
  | 37 => .int
  | 38 => .int
  | 39 => .int
  | 40 => .int
  | 41 => .int
  | _ => .int
theorem tn_MD : ∀ a, a < 43 → ∀ b, b < 43 → a ≠ b → (tk_MD a).2.1 ≠ (tk_MD b).2.1 := by decide +kernel
theorem to_MD : ∀ k, k < 43 → parseFieldDescriptor (tk_MD k).2.2.1 = some (ty_MD k) := by decide +kernel
abbrev xw_Cl : List vw_C := [("CertificatePath", tk_CP, 6), ("CertificatePath$Reader", tk_RD, 5), ("CertificatePath$ByteRow", tk_BR, 2), ("CertificatePath$Name", tk_NM, 2), ("CertificatePath$NameList", tk_NL, 2), ("CertificatePath$Extension", tk_EX, 4), ("CertificatePath$Certificate", tk_CT, 16), ("CertificatePathModel", tk_MD, 43)]
abbrev xm_M : Type := Nat → Nat → Nat
def xm_set (M : xm_M) (p k v : Nat) : xm_M := fun q j => if q = p then (if j = k then v else M q j) else M q j
abbrev xl_L : Type := Nat → Nat → Option Nat
def xl_set (l : xl_L) (p k : Nat) (v : Option Nat) : xl_L := fun q j => if q = p then (if j = k then v else l q j) else l q j
/-- the slots that hold references -/
def xw_rk (c k : Nat) : Bool := match c with
  | 0 => k == 0 || k == 1 || k == 2 || k == 4
  | 1 => k == 0 || k == 1
  | 2 => k == 0
  | 3 => k == 0
  | 4 => k == 0
  | 5 => k == 2
  | 6 => k == 1 || k == 4 || k == 9 || k == 14 || k == 15
  | _ => k == 0 || k == 3 || k == 4 || k == 26
/-- a place within a certificate: its kind -/
def xw_Kc (j : Nat) : Nat × Nat × Nat :=
  if j = 0 then (0, 6, 16) else if j = 5 then (3, 4, 4) else
  if j = 1 ∨ j = 3 then (0, 3, 2) else if j = 2 ∨ j = 4 then (2, 1, 4) else
  if j < 14 then (if j % 2 = 0 then (0, 5, 4) else (1, 0, 20)) else
  if j = 14 ∨ j = 22 then (0, 4, 2) else if j = 15 ∨ j = 23 then (3, 3, 3) else
  if j % 2 = 0 then (0, 3, 2) else (2, 1, 4)
/-- what a place is: (0, class, slots) an object; (1, 0, n), (2, 1, n), (3, t, n) an array of ints, longs, references -/
def xw_K (q : Nat) : Nat × Nat × Nat :=
  if q < 6 then (match q with
    | 0 => (0, 0, 6)
    | 1 => (0, 1, 5)
    | 2 => (0, 2, 2)
    | 3 => (1, 0, 160)
    | 4 => (1, 0, 11)
    | _ => (3, 2, 9))
  else if q < 276 then xw_Kc ((q - 6) % 30)
  else match q with
    | 276 => (1, 0, 6)
    | 277 => (0, 7, 43)
    | 278 => (1, 0, 1440)
    | 279 => (1, 0, 8)
    | 280 => (1, 0, 6)
    | _ => (1, 0, 4)
def xw_N : Nat := 282
def xw_A2 : String := "CertificatePath$Certificate"
def xw_A3 : String := "CertificatePath$Name"
def xw_A4 : String := "CertificatePath$Extension"
/-- where the references lead, within a certificate at place q, offset j -/
def xw_lc (q j k : Nat) : Option Nat :=
  if j = 0 then (match k with
    | 1 => some (q + 1)
    | 4 => some (q + 3)
    | 9 => some (q + 5)
    | 14 => some (q + 14)
    | 15 => some (q + 22)
    | _ => none)
  else if j = 5 then (if k < 4 then some (q + 1 + 2 * k) else none)
  else if j = 15 ∨ j = 23 then (if k < 3 then some (q + 1 + 2 * k) else none)
  else if 6 ≤ j ∧ j < 14 then (if k = 2 then some (q + 1) else none)
  else (if k = 0 then some (q + 1) else none)
def xw_lk : xl_L := fun q k =>
  if q < 6 then (match q with
    | 0 => (match k with
      | 0 => some 1
      | 1 => some 2
      | 2 => some 5
      | 4 => some 276
      | _ => none)
    | 1 => (match k with
      | 0 => some 2
      | 1 => some 4
      | _ => none)
    | 2 => (match k with
      | 0 => some 3
      | _ => none)
    | 5 => if k < 9 then some (6 + 30 * k) else none
    | _ => none)
  else if q < 276 then xw_lc q ((q - 6) % 30) k
  else if q = 277 then (match k with
    | 0 => some 278
    | 3 => some 279
    | 4 => some 280
    | 26 => some 281
    | _ => none)
  else none
def xw_isN : Cond → Bool
  | .fieldLinkNest .. => true
  | .methodLinkNest .. => true
  | _ => false
def xw_W : List Cond := lw_tbl.filter goodWord
def xw_NW : List Cond := lw_tbl.filter xw_isN
theorem xw_good : GoodIn xw_W xw_W := fun w hw => ⟨hw, good_of_word (List.mem_filter.mp hw).2⟩
theorem xw_NWf : ∀ w ∈ xw_NW, (∃ (a : String) (i : Nat) (b n d h : String), w = .fieldLinkNest a i b n d h) ∨ ∃ (a : String) (i : Nat) (x : MethodName) (h : String), w = .methodLinkNest a i x h := by
  intro w hw
  have h := (List.mem_filter.mp hw).2
  cases w <;> first | (simp [xw_isN] at h; done) | exact Or.inl ⟨_, _, _, _, _, _, rfl⟩ | exact Or.inr ⟨_, _, _, _, rfl⟩
theorem xw_NWt : ∀ w ∈ xw_NW, w.onTables = true := by
  intro w hw
  rcases xw_NWf w hw with ⟨a, i, b, n, d, h, rfl⟩ | ⟨a, i, x, h, rfl⟩ <;> rfl
theorem xw_in {w : Cond} (i : Nat) (h : tables_1[i]? = some w) (hg : goodWord w = true) : w ∈ xw_W := List.mem_filter.mpr ⟨List.mem_append_right _ (List.mem_of_getElem? h), hg⟩
theorem xw_inP {w : Cond} (i : Nat) (h : (k2_sels lw_privs)[i]? = some w) (hg : goodWord w = true) : w ∈ xw_W := List.mem_filter.mpr ⟨List.mem_append_left _ (List.mem_of_getElem? h), hg⟩
theorem xw_inN {w : Cond} (i : Nat) (h : tables_1[i]? = some w) (hg : xw_isN w = true) : w ∈ xw_NW := List.mem_filter.mpr ⟨List.mem_append_right _ (List.mem_of_getElem? h), hg⟩
abbrev xc_q : Type := MethodName × ByteArray × Nat × Option FieldType
abbrev qm_CP_init : xc_q := (⟨"CertificatePath", "<init>", "()V"⟩, prog_1_method_1_code, 2, none)
abbrev qm_RD_init : xc_q := (⟨"CertificatePath$Reader", "<init>", "()V"⟩, prog_7_method_1_code, 1, none)
abbrev qm_BR_init : xc_q := (⟨"CertificatePath$ByteRow", "<init>", "()V"⟩, prog_2_method_1_code, 1, none)
abbrev qm_CT_init : xc_q := (⟨"CertificatePath$Certificate", "<init>", "()V"⟩, prog_3_method_1_code, 2, none)
abbrev qm_NM_init : xc_q := (⟨"CertificatePath$Name", "<init>", "()V"⟩, prog_5_method_1_code, 1, none)
abbrev qm_EX_init : xc_q := (⟨"CertificatePath$Extension", "<init>", "()V"⟩, prog_4_method_1_code, 1, none)
abbrev qm_NL_init : xc_q := (⟨"CertificatePath$NameList", "<init>", "()V"⟩, prog_6_method_1_code, 2, none)
abbrev qm_CT_forgetExtensions : xc_q := (⟨"CertificatePath$Certificate", "forgetExtensions", "()V"⟩, prog_3_method_2_code, 1, none)
abbrev qm_CP_feed : xc_q := (⟨"CertificatePath", "feed", "(II)Z"⟩, prog_1_method_2_code, 4, (some .boolean))
abbrev qm_BR_append : xc_q := (⟨"CertificatePath$ByteRow", "append", "(I)I"⟩, prog_2_method_4_code, 2, (some .int))
abbrev qm_CP_set : xc_q := (⟨"CertificatePath", "set", "(II)Z"⟩, prog_1_method_3_code, 3, (some .boolean))
abbrev qm_BR_has : xc_q := (⟨"CertificatePath$ByteRow", "has", "(I)Z"⟩, prog_2_method_2_code, 2, (some .boolean))
abbrev qm_CP_trim : xc_q := (⟨"CertificatePath", "trim", "(I)Z"⟩, prog_1_method_4_code, 2, (some .boolean))
abbrev qm_CP_length : xc_q := (⟨"CertificatePath", "length", "()I"⟩, prog_1_method_5_code, 1, (some .int))
abbrev qm_CP_byteAt : xc_q := (⟨"CertificatePath", "byteAt", "(I)I"⟩, prog_1_method_6_code, 2, (some .int))
abbrev qm_CP_hash : xc_q := (⟨"CertificatePath", "hash", "(II)I"⟩, prog_1_method_7_code, 3, (some .int))
abbrev qm_BR_hashBetween : xc_q := (⟨"CertificatePath$ByteRow", "hashBetween", "(II)I"⟩, prog_2_method_3_code, 5, (some .int))
abbrev qm_CP_accept : xc_q := (⟨"CertificatePath", "accept", "()I"⟩, prog_1_method_8_code, 1, (some .int))
abbrev qm_CT_readFrom : xc_q := (⟨"CertificatePath$Certificate", "readFrom", "(LCertificatePath$Reader;)Z"⟩, prog_3_method_11_code, 3, (some .boolean))
abbrev qm_RD_start : xc_q := (⟨"CertificatePath$Reader", "start", "()V"⟩, prog_7_method_2_code, 1, none)
abbrev qm_RD_open : xc_q := (⟨"CertificatePath$Reader", "open", "(I)V"⟩, prog_7_method_9_code, 5, none)
abbrev qm_CT_readHead : xc_q := (⟨"CertificatePath$Certificate", "readHead", "(LCertificatePath$Reader;)V"⟩, prog_3_method_12_code, 2, none)
abbrev qm_RD_readInteger : xc_q := (⟨"CertificatePath$Reader", "readInteger", "(II)I"⟩, prog_7_method_11_code, 8, (some .int))
abbrev qm_RD_remaining : xc_q := (⟨"CertificatePath$Reader", "remaining", "()I"⟩, prog_7_method_5_code, 1, (some .int))
abbrev qm_RD_refuse : xc_q := (⟨"CertificatePath$Reader", "refuse", "()V"⟩, prog_7_method_3_code, 1, none)
abbrev qm_RD_readByte : xc_q := (⟨"CertificatePath$Reader", "readByte", "()I"⟩, prog_7_method_8_code, 1, (some .int))
abbrev qm_RD_close : xc_q := (⟨"CertificatePath$Reader", "close", "()V"⟩, prog_7_method_10_code, 1, none)
abbrev qm_NM_readFrom : xc_q := (⟨"CertificatePath$Name", "readFrom", "(LCertificatePath$Reader;)V"⟩, prog_5_method_4_code, 6, none)
abbrev qm_RD_nextIs : xc_q := (⟨"CertificatePath$Reader", "nextIs", "(I)Z"⟩, prog_7_method_7_code, 2, (some .boolean))
abbrev qm_CT_readExtension : xc_q := (⟨"CertificatePath$Certificate", "readExtension", "(LCertificatePath$Reader;LCertificatePath$Extension;)V"⟩, prog_3_method_13_code, 4, none)
abbrev qm_CT_hasExtension : xc_q := (⟨"CertificatePath$Certificate", "hasExtension", "(I)Z"⟩, prog_3_method_14_code, 3, (some .boolean))
abbrev qm_RD_readTrueIfThere : xc_q := (⟨"CertificatePath$Reader", "readTrueIfThere", "()Z"⟩, prog_7_method_12_code, 1, (some .boolean))
abbrev qm_CT_readBasic : xc_q := (⟨"CertificatePath$Certificate", "readBasic", "(LCertificatePath$Reader;)V"⟩, prog_3_method_15_code, 2, none)
abbrev qm_CT_readUsage : xc_q := (⟨"CertificatePath$Certificate", "readUsage", "(LCertificatePath$Reader;)V"⟩, prog_3_method_16_code, 4, none)
abbrev qm_CT_zerosBehind : xc_q := (⟨"CertificatePath$Certificate", "zerosBehind", "(I)I"⟩, prog_3_method_25_code, 2, (some .int))
abbrev qm_CT_mirrored : xc_q := (⟨"CertificatePath$Certificate", "mirrored", "(I)I"⟩, prog_3_method_24_code, 3, (some .int))
abbrev qm_CT_readBounds : xc_q := (⟨"CertificatePath$Certificate", "readBounds", "(LCertificatePath$Reader;)V"⟩, prog_3_method_17_code, 2, none)
abbrev qm_NL_readIfThere : xc_q := (⟨"CertificatePath$NameList", "readIfThere", "(LCertificatePath$Reader;I)V"⟩, prog_6_method_3_code, 3, none)
abbrev qm_EX_readOctets : xc_q := (⟨"CertificatePath$Extension", "readOctets", "(LCertificatePath$Reader;)V"⟩, prog_4_method_3_code, 3, none)
abbrev qm_RD_hashSince : xc_q := (⟨"CertificatePath$Reader", "hashSince", "(I)I"⟩, prog_7_method_6_code, 2, (some .int))
abbrev qm_RD_isAtEndOfRow : xc_q := (⟨"CertificatePath$Reader", "isAtEndOfRow", "()Z"⟩, prog_7_method_4_code, 1, (some .boolean))
abbrev qm_CP_count : xc_q := (⟨"CertificatePath", "count", "()I"⟩, prog_1_method_9_code, 1, (some .int))
abbrev qm_CP_field : xc_q := (⟨"CertificatePath", "field", "(II)I"⟩, prog_1_method_10_code, 3, (some .int))
abbrev qm_CP_isKept : xc_q := (⟨"CertificatePath", "isKept", "(I)Z"⟩, prog_1_method_18_code, 2, (some .boolean))
abbrev qm_CT_fieldNumbered : xc_q := (⟨"CertificatePath$Certificate", "fieldNumbered", "(I)I"⟩, prog_3_method_3_code, 2, (some .int))
abbrev qm_CP_within : xc_q := (⟨"CertificatePath", "within", "(IZIZ)Z"⟩, prog_1_method_11_code, 5, (some .boolean))
abbrev qm_CP_nameOf : xc_q := (⟨"CertificatePath", "nameOf", "(IZ)LCertificatePath$Name;"⟩, prog_1_method_19_code, 3, (some (.object "CertificatePath$Name")))
abbrev qm_NM_isWithin : xc_q := (⟨"CertificatePath$Name", "isWithin", "(LCertificatePath$Name;)Z"⟩, prog_5_method_2_code, 3, (some .boolean))
abbrev qm_CP_recode : xc_q := (⟨"CertificatePath", "recode", "(I)I"⟩, prog_1_method_12_code, 2, (some .int))
abbrev qm_CT_writeTo : xc_q := (⟨"CertificatePath$Certificate", "writeTo", "(LCertificatePath$ByteRow;)V"⟩, prog_3_method_18_code, 7, none)
abbrev qm_CT_writeHead : xc_q := (⟨"CertificatePath$Certificate", "writeHead", "(LCertificatePath$ByteRow;)V"⟩, prog_3_method_19_code, 4, none)
abbrev qm_BR_appendInteger : xc_q := (⟨"CertificatePath$ByteRow", "appendInteger", "(I)V"⟩, prog_2_method_6_code, 5, none)
abbrev qm_BR_insertLength : xc_q := (⟨"CertificatePath$ByteRow", "insertLength", "(I)V"⟩, prog_2_method_5_code, 5, none)
abbrev qm_NM_writeTo : xc_q := (⟨"CertificatePath$Name", "writeTo", "(LCertificatePath$ByteRow;)V"⟩, prog_5_method_5_code, 7, none)
abbrev qm_CT_writeExtension : xc_q := (⟨"CertificatePath$Certificate", "writeExtension", "(LCertificatePath$ByteRow;LCertificatePath$Extension;)V"⟩, prog_3_method_20_code, 5, none)
abbrev qm_BR_appendTrue : xc_q := (⟨"CertificatePath$ByteRow", "appendTrue", "()V"⟩, prog_2_method_7_code, 2, none)
abbrev qm_CT_writeBasic : xc_q := (⟨"CertificatePath$Certificate", "writeBasic", "(LCertificatePath$ByteRow;)V"⟩, prog_3_method_21_code, 3, none)
abbrev qm_CT_writeUsage : xc_q := (⟨"CertificatePath$Certificate", "writeUsage", "(LCertificatePath$ByteRow;)V"⟩, prog_3_method_22_code, 4, none)
abbrev qm_CT_writeBounds : xc_q := (⟨"CertificatePath$Certificate", "writeBounds", "(LCertificatePath$ByteRow;)V"⟩, prog_3_method_23_code, 3, none)
abbrev qm_NL_writeIfThere : xc_q := (⟨"CertificatePath$NameList", "writeIfThere", "(LCertificatePath$ByteRow;I)V"⟩, prog_6_method_4_code, 5, none)
abbrev qm_EX_writeOctets : xc_q := (⟨"CertificatePath$Extension", "writeOctets", "(LCertificatePath$ByteRow;)V"⟩, prog_4_method_4_code, 3, none)
abbrev qm_CP_link : xc_q := (⟨"CertificatePath", "link", "(I)Z"⟩, prog_1_method_13_code, 2, (some .boolean))
abbrev qm_CP_unlink : xc_q := (⟨"CertificatePath", "unlink", "()Z"⟩, prog_1_method_14_code, 1, (some .boolean))
abbrev qm_CP_links : xc_q := (⟨"CertificatePath", "links", "()I"⟩, prog_1_method_15_code, 1, (some .int))
abbrev qm_CP_check : xc_q := (⟨"CertificatePath", "check", "(III)I"⟩, prog_1_method_16_code, 10, (some .int))
abbrev qm_CP_brokenAnywhere : xc_q := (⟨"CertificatePath", "brokenAnywhere", "(LCertificatePath$Certificate;II)I"⟩, prog_1_method_20_code, 6, (some .int))
abbrev qm_CT_isSignedBy : xc_q := (⟨"CertificatePath$Certificate", "isSignedBy", "(II)Z"⟩, prog_3_method_5_code, 8, (some .boolean))
abbrev qm_NM_isSameAs : xc_q := (⟨"CertificatePath$Name", "isSameAs", "(LCertificatePath$Name;)Z"⟩, prog_5_method_3_code, 2, (some .boolean))
abbrev qm_CT_isSelfIssued : xc_q := (⟨"CertificatePath$Certificate", "isSelfIssued", "()Z"⟩, prog_3_method_4_code, 1, (some .boolean))
abbrev qm_CP_isWithinBoundsBefore : xc_q := (⟨"CertificatePath", "isWithinBoundsBefore", "(I)Z"⟩, prog_1_method_21_code, 4, (some .boolean))
abbrev qm_CT_allows : xc_q := (⟨"CertificatePath$Certificate", "allows", "(LCertificatePath$Name;)Z"⟩, prog_3_method_7_code, 2, (some .boolean))
abbrev qm_NL_covers : xc_q := (⟨"CertificatePath$NameList", "covers", "(LCertificatePath$Name;)Z"⟩, prog_6_method_2_code, 3, (some .boolean))
abbrev qm_CT_hasUnknownCritical : xc_q := (⟨"CertificatePath$Certificate", "hasUnknownCritical", "()Z"⟩, prog_3_method_6_code, 2, (some .boolean))
abbrev qm_EX_isKnown : xc_q := (⟨"CertificatePath$Extension", "isKnown", "()Z"⟩, prog_4_method_2_code, 1, (some .boolean))
abbrev qm_CT_brokenAsLast : xc_q := (⟨"CertificatePath$Certificate", "brokenAsLast", "(I)I"⟩, prog_3_method_9_code, 2, (some .int))
abbrev qm_CT_brokenAsHolder : xc_q := (⟨"CertificatePath$Certificate", "brokenAsHolder", "(I)I"⟩, prog_3_method_8_code, 2, (some .int))
abbrev qm_CT_restBehind : xc_q := (⟨"CertificatePath$Certificate", "restBehind", "(I)I"⟩, prog_3_method_10_code, 3, (some .int))
abbrev qm_CP_reset : xc_q := (⟨"CertificatePath", "reset", "()V"⟩, prog_1_method_17_code, 1, none)
abbrev qm_MD_init : xc_q := (⟨"CertificatePathModel", "<init>", "()V"⟩, prog_9_method_1_code, 1, none)
abbrev qm_MD_feed : xc_q := (⟨"CertificatePathModel", "feed", "(II)Z"⟩, prog_9_method_2_code, 4, (some .boolean))
abbrev qm_MD_set : xc_q := (⟨"CertificatePathModel", "set", "(II)Z"⟩, prog_9_method_3_code, 3, (some .boolean))
abbrev qm_MD_trim : xc_q := (⟨"CertificatePathModel", "trim", "(I)Z"⟩, prog_9_method_4_code, 2, (some .boolean))
abbrev qm_MD_length : xc_q := (⟨"CertificatePathModel", "length", "()I"⟩, prog_9_method_5_code, 1, (some .int))
abbrev qm_MD_byteAt : xc_q := (⟨"CertificatePathModel", "byteAt", "(I)I"⟩, prog_9_method_6_code, 2, (some .int))
abbrev qm_MD_hash : xc_q := (⟨"CertificatePathModel", "hash", "(II)I"⟩, prog_9_method_8_code, 3, (some .int))
abbrev qm_MD_hashed : xc_q := (⟨"CertificatePathModel", "hashed", "(II)I"⟩, prog_9_method_7_code, 6, (some .int))
abbrev qm_MD_accept : xc_q := (⟨"CertificatePathModel", "accept", "()I"⟩, prog_9_method_26_code, 2, (some .int))
abbrev qm_MD_read : xc_q := (⟨"CertificatePathModel", "read", "(II)Z"⟩, prog_9_method_23_code, 4, (some .boolean))
abbrev qm_MD_enter : xc_q := (⟨"CertificatePathModel", "enter", "(II)I"⟩, prog_9_method_10_code, 4, (some .int))
abbrev qm_MD_tagged : xc_q := (⟨"CertificatePathModel", "tagged", "(II)Z"⟩, prog_9_method_9_code, 3, (some .boolean))
abbrev qm_MD_body : xc_q := (⟨"CertificatePathModel", "body", "(I)V"⟩, prog_9_method_22_code, 4, none)
abbrev qm_MD_integer : xc_q := (⟨"CertificatePathModel", "integer", "(I)I"⟩, prog_9_method_12_code, 6, (some .int))
abbrev qm_MD_name : xc_q := (⟨"CertificatePathModel", "name", "(I)V"⟩, prog_9_method_14_code, 5, none)
abbrev qm_MD_leave : xc_q := (⟨"CertificatePathModel", "leave", "(I)V"⟩, prog_9_method_11_code, 2, none)
abbrev qm_MD_key : xc_q := (⟨"CertificatePathModel", "key", "(I)V"⟩, prog_9_method_20_code, 3, none)
abbrev qm_MD_more : xc_q := (⟨"CertificatePathModel", "more", "(I)V"⟩, prog_9_method_21_code, 4, none)
abbrev qm_MD_extension : xc_q := (⟨"CertificatePathModel", "extension", "(I)V"⟩, prog_9_method_19_code, 6, none)
abbrev qm_MD_truth : xc_q := (⟨"CertificatePathModel", "truth", "(I)Z"⟩, prog_9_method_13_code, 3, (some .boolean))
abbrev qm_MD_basicContent : xc_q := (⟨"CertificatePathModel", "basicContent", "(I)V"⟩, prog_9_method_16_code, 3, none)
abbrev qm_MD_usageBits : xc_q := (⟨"CertificatePathModel", "usageBits", "(I)V"⟩, prog_9_method_15_code, 7, none)
abbrev qm_MD_bounds : xc_q := (⟨"CertificatePathModel", "bounds", "(I)V"⟩, prog_9_method_18_code, 3, none)
abbrev qm_MD_names : xc_q := (⟨"CertificatePathModel", "names", "(II)I"⟩, prog_9_method_17_code, 5, (some .int))
abbrev qm_MD_count : xc_q := (⟨"CertificatePathModel", "count", "()I"⟩, prog_9_method_27_code, 1, (some .int))
abbrev qm_MD_field : xc_q := (⟨"CertificatePathModel", "field", "(II)I"⟩, prog_9_method_28_code, 3, (some .int))
abbrev qm_MD_fetch : xc_q := (⟨"CertificatePathModel", "fetch", "(I)Z"⟩, prog_9_method_25_code, 2, (some .boolean))
abbrev qm_MD_kept : xc_q := (⟨"CertificatePathModel", "kept", "(I)Z"⟩, prog_9_method_24_code, 2, (some .boolean))
abbrev qm_MD_within : xc_q := (⟨"CertificatePathModel", "within", "(IZIZ)Z"⟩, prog_9_method_31_code, 7, (some .boolean))
abbrev qm_MD_inside : xc_q := (⟨"CertificatePathModel", "inside", "(IIII)Z"⟩, prog_9_method_29_code, 7, (some .boolean))
abbrev qm_MD_recode : xc_q := (⟨"CertificatePathModel", "recode", "(I)I"⟩, prog_9_method_32_code, 3, (some .int))
abbrev qm_MD_link : xc_q := (⟨"CertificatePathModel", "link", "(I)Z"⟩, prog_9_method_33_code, 2, (some .boolean))
abbrev qm_MD_unlink : xc_q := (⟨"CertificatePathModel", "unlink", "()Z"⟩, prog_9_method_34_code, 1, (some .boolean))
abbrev qm_MD_links : xc_q := (⟨"CertificatePathModel", "links", "()I"⟩, prog_9_method_35_code, 1, (some .int))
abbrev qm_MD_check : xc_q := (⟨"CertificatePathModel", "check", "(III)I"⟩, prog_9_method_41_code, 6, (some .int))
abbrev qm_MD_takeKey : xc_q := (⟨"CertificatePathModel", "takeKey", "()V"⟩, prog_9_method_39_code, 1, none)
abbrev qm_MD_broken : xc_q := (⟨"CertificatePathModel", "broken", "(III)I"⟩, prog_9_method_40_code, 7, (some .int))
abbrev qm_MD_signedByKey : xc_q := (⟨"CertificatePathModel", "signedByKey", "()Z"⟩, prog_9_method_38_code, 4, (some .boolean))
abbrev qm_MD_equalNames : xc_q := (⟨"CertificatePathModel", "equalNames", "(IIII)Z"⟩, prog_9_method_30_code, 5, (some .boolean))
abbrev qm_MD_passes : xc_q := (⟨"CertificatePathModel", "passes", "(III)Z"⟩, prog_9_method_37_code, 6, (some .boolean))
abbrev qm_MD_some : xc_q := (⟨"CertificatePathModel", "some", "(IIII)Z"⟩, prog_9_method_36_code, 7, (some .boolean))
abbrev qm_MD_reset : xc_q := (⟨"CertificatePathModel", "reset", "()V"⟩, prog_9_method_42_code, 1, none)
end
section
/-! the words of fields and calls, by their places in the tables -/
theorem wi_CP : ∀ w ∈ u_ws "CertificatePath" tk_CP 6, w ∈ xw_W := by decide +kernel
theorem wi_RD : ∀ w ∈ u_ws "CertificatePath$Reader" tk_RD 5, w ∈ xw_W := by decide +kernel
theorem wi_BR : ∀ w ∈ u_ws "CertificatePath$ByteRow" tk_BR 2, w ∈ xw_W := by decide +kernel
theorem wi_NM : ∀ w ∈ u_ws "CertificatePath$Name" tk_NM 2, w ∈ xw_W := by decide +kernel
theorem wi_NL : ∀ w ∈ u_ws "CertificatePath$NameList" tk_NL 2, w ∈ xw_W := by decide +kernel
theorem wi_EX : ∀ w ∈ u_ws "CertificatePath$Extension" tk_EX 4, w ∈ xw_W := by decide +kernel
theorem wi_CT : ∀ w ∈ u_ws "CertificatePath$Certificate" tk_CT 16, w ∈ xw_W := by decide +kernel
theorem wi_MD : ∀ w ∈ u_ws "CertificatePathModel" tk_MD 43, w ∈ xw_W := by decide +kernel
/-- a field's word and its tables -/
def xf_L (own : String) (idx ci n k : Nat) (fin : Bool) (ty : FieldType) : Prop :=
  ∃ (C : String) (T : u_T) (tf : Nat → FieldType), xw_Cl[ci]? = some (C, T, n) ∧ k < n ∧ (∀ w ∈ u_ws C T n, w ∈ xw_W) ∧ (Cond.fieldLink own idx (T k).1 (T k).2.1 (T k).2.2.1 ∈ xw_W ∨ ∃ host : String, Cond.fieldLinkNest own idx (T k).1 (T k).2.1 (T k).2.2.1 host ∈ xw_NW) ∧ (T k).2.2.2 = fin ∧ parseFieldDescriptor (T k).2.2.1 = some ty ∧ (∀ k, k < n → parseFieldDescriptor (T k).2.2.1 = some (tf k)) ∧ (∀ a, a < n → ∀ b, b < n → a ≠ b → (T a).2.1 ≠ (T b).2.1)
/-- the words of a call: plain or between nest mates -/
def xc_L (own : String) (idx : Nat) (q : xc_q) (n : Nat) : Prop := (Cond.methodLink own idx q.1 ∈ xw_W ∨ ∃ host : String, Cond.methodLinkNest own idx q.1 host ∈ xw_NW) ∧ Cond.initialized q.1.cls ∈ xw_W ∧ Cond.code q.1 q.2.1 q.2.2.1 q.2.2.2 ∈ xw_W ∧ (q.1.cls ≠ "java/lang/invoke/MethodHandle" ∧ q.1.cls ≠ "java/lang/invoke/VarHandle") ∧ (parseMethodDescriptor q.1.desc).map (fun d => d.parameters.length) = some n
def xc_LV (q : xc_q) : Prop := Cond.instanceMethod q.1 ∈ xw_W ∧ Cond.selects q.1.cls q.1 q.1 ∈ xw_W
def xc_LS (q : xc_q) : Prop := Cond.static q.1 ∈ xw_W
theorem ml_LW_9 : xc_L "CertificatePathLaw" 9 qm_CP_init 0 := ⟨Or.inl (xw_in 11 (by decide +kernel) rfl), xw_in 1 (by decide +kernel) rfl, xw_in 13 (by decide +kernel) rfl, ⟨by decide +kernel, by decide +kernel⟩, by decide +kernel⟩
theorem ml_CP_9 : xc_L "CertificatePath" 9 qm_RD_init 0 := ⟨Or.inl (xw_in 19 (by decide +kernel) rfl), xw_in 2 (by decide +kernel) rfl, xw_in 21 (by decide +kernel) rfl, ⟨by decide +kernel, by decide +kernel⟩, by decide +kernel⟩
theorem ml_RD_11 : xc_L "CertificatePath$Reader" 11 qm_BR_init 0 := ⟨Or.inl (xw_in 25 (by decide +kernel) rfl), xw_in 3 (by decide +kernel) rfl, xw_in 27 (by decide +kernel) rfl, ⟨by decide +kernel, by decide +kernel⟩, by decide +kernel⟩
theorem fl_BR_9 : xf_L "CertificatePath$ByteRow" 9 2 2 0 true (.array .int) := ⟨"CertificatePath$ByteRow", tk_BR, ty_BR, rfl, by decide, wi_BR, Or.inl (xw_in 29 (by decide +kernel) rfl), rfl, by decide +kernel, to_BR, tn_BR⟩
theorem fl_CP_54 : xf_L "CertificatePath" 54 2 2 0 true (.array .int) := ⟨"CertificatePath$ByteRow", tk_BR, ty_BR, rfl, by decide, wi_BR, Or.inr ⟨"CertificatePath", xw_inN 30 (by decide +kernel) rfl⟩, rfl, by decide +kernel, to_BR, tn_BR⟩
theorem fl_RD_40 : xf_L "CertificatePath$Reader" 40 2 2 0 true (.array .int) := ⟨"CertificatePath$ByteRow", tk_BR, ty_BR, rfl, by decide, wi_BR, Or.inr ⟨"CertificatePath", xw_inN 31 (by decide +kernel) rfl⟩, rfl, by decide +kernel, to_BR, tn_BR⟩
theorem fl_BR_15 : xf_L "CertificatePath$ByteRow" 15 2 2 1 false (.int) := ⟨"CertificatePath$ByteRow", tk_BR, ty_BR, rfl, by decide, wi_BR, Or.inl (xw_in 32 (by decide +kernel) rfl), rfl, by decide +kernel, to_BR, tn_BR⟩
theorem fl_RD_33 : xf_L "CertificatePath$Reader" 33 2 2 1 false (.int) := ⟨"CertificatePath$ByteRow", tk_BR, ty_BR, rfl, by decide, wi_BR, Or.inr ⟨"CertificatePath", xw_inN 33 (by decide +kernel) rfl⟩, rfl, by decide +kernel, to_BR, tn_BR⟩
theorem fl_CP_41 : xf_L "CertificatePath" 41 2 2 1 false (.int) := ⟨"CertificatePath$ByteRow", tk_BR, ty_BR, rfl, by decide, wi_BR, Or.inr ⟨"CertificatePath", xw_inN 34 (by decide +kernel) rfl⟩, rfl, by decide +kernel, to_BR, tn_BR⟩
theorem fl_RD_12 : xf_L "CertificatePath$Reader" 12 1 5 0 true (.object "CertificatePath$ByteRow") := ⟨"CertificatePath$Reader", tk_RD, ty_RD, rfl, by decide, wi_RD, Or.inl (xw_in 41 (by decide +kernel) rfl), rfl, by decide +kernel, to_RD, tn_RD⟩
theorem fl_CP_16 : xf_L "CertificatePath" 16 1 5 0 true (.object "CertificatePath$ByteRow") := ⟨"CertificatePath$Reader", tk_RD, ty_RD, rfl, by decide, wi_RD, Or.inr ⟨"CertificatePath", xw_inN 42 (by decide +kernel) rfl⟩, rfl, by decide +kernel, to_RD, tn_RD⟩
theorem fl_RD_18 : xf_L "CertificatePath$Reader" 18 1 5 1 true (.array .int) := ⟨"CertificatePath$Reader", tk_RD, ty_RD, rfl, by decide, wi_RD, Or.inl (xw_in 43 (by decide +kernel) rfl), rfl, by decide +kernel, to_RD, tn_RD⟩
theorem fl_RD_22 : xf_L "CertificatePath$Reader" 22 1 5 2 false (.int) := ⟨"CertificatePath$Reader", tk_RD, ty_RD, rfl, by decide, wi_RD, Or.inl (xw_in 44 (by decide +kernel) rfl), rfl, by decide +kernel, to_RD, tn_RD⟩
theorem fl_RD_26 : xf_L "CertificatePath$Reader" 26 1 5 3 false (.int) := ⟨"CertificatePath$Reader", tk_RD, ty_RD, rfl, by decide, wi_RD, Or.inl (xw_in 45 (by decide +kernel) rfl), rfl, by decide +kernel, to_RD, tn_RD⟩
theorem fl_CT_106 : xf_L "CertificatePath$Certificate" 106 1 5 3 false (.int) := ⟨"CertificatePath$Reader", tk_RD, ty_RD, rfl, by decide, wi_RD, Or.inr ⟨"CertificatePath", xw_inN 46 (by decide +kernel) rfl⟩, rfl, by decide +kernel, to_RD, tn_RD⟩
theorem fl_RD_29 : xf_L "CertificatePath$Reader" 29 1 5 4 false (.boolean) := ⟨"CertificatePath$Reader", tk_RD, ty_RD, rfl, by decide, wi_RD, Or.inl (xw_in 47 (by decide +kernel) rfl), rfl, by decide +kernel, to_RD, tn_RD⟩
theorem ml_CP_29 : xc_L "CertificatePath" 29 qm_CT_init 0 := ⟨Or.inl (xw_in 62 (by decide +kernel) rfl), xw_in 4 (by decide +kernel) rfl, xw_in 64 (by decide +kernel) rfl, ⟨by decide +kernel, by decide +kernel⟩, by decide +kernel⟩
theorem ml_CT_11 : xc_L "CertificatePath$Certificate" 11 qm_NM_init 0 := ⟨Or.inl (xw_in 68 (by decide +kernel) rfl), xw_in 5 (by decide +kernel) rfl, xw_in 70 (by decide +kernel) rfl, ⟨by decide +kernel, by decide +kernel⟩, by decide +kernel⟩
theorem fl_NM_9 : xf_L "CertificatePath$Name" 9 3 2 0 true (.array .long) := ⟨"CertificatePath$Name", tk_NM, ty_NM, rfl, by decide, wi_NM, Or.inl (xw_in 72 (by decide +kernel) rfl), rfl, by decide +kernel, to_NM, tn_NM⟩
theorem fl_NM_15 : xf_L "CertificatePath$Name" 15 3 2 1 false (.int) := ⟨"CertificatePath$Name", tk_NM, ty_NM, rfl, by decide, wi_NM, Or.inl (xw_in 73 (by decide +kernel) rfl), rfl, by decide +kernel, to_NM, tn_NM⟩
theorem fl_CT_79 : xf_L "CertificatePath$Certificate" 79 3 2 1 false (.int) := ⟨"CertificatePath$Name", tk_NM, ty_NM, rfl, by decide, wi_NM, Or.inr ⟨"CertificatePath", xw_inN 74 (by decide +kernel) rfl⟩, rfl, by decide +kernel, to_NM, tn_NM⟩
theorem ml_CT_27 : xc_L "CertificatePath$Certificate" 27 qm_EX_init 0 := ⟨Or.inl (xw_in 84 (by decide +kernel) rfl), xw_in 6 (by decide +kernel) rfl, xw_in 86 (by decide +kernel) rfl, ⟨by decide +kernel, by decide +kernel⟩, by decide +kernel⟩
theorem fl_EX_9 : xf_L "CertificatePath$Extension" 9 5 4 0 false (.int) := ⟨"CertificatePath$Extension", tk_EX, ty_EX, rfl, by decide, wi_EX, Or.inl (xw_in 88 (by decide +kernel) rfl), rfl, by decide +kernel, to_EX, tn_EX⟩
theorem fl_CT_149 : xf_L "CertificatePath$Certificate" 149 5 4 0 false (.int) := ⟨"CertificatePath$Extension", tk_EX, ty_EX, rfl, by decide, wi_EX, Or.inr ⟨"CertificatePath", xw_inN 89 (by decide +kernel) rfl⟩, rfl, by decide +kernel, to_EX, tn_EX⟩
theorem fl_EX_15 : xf_L "CertificatePath$Extension" 15 5 4 1 false (.boolean) := ⟨"CertificatePath$Extension", tk_EX, ty_EX, rfl, by decide, wi_EX, Or.inl (xw_in 90 (by decide +kernel) rfl), rfl, by decide +kernel, to_EX, tn_EX⟩
theorem fl_CT_84 : xf_L "CertificatePath$Certificate" 84 5 4 1 false (.boolean) := ⟨"CertificatePath$Extension", tk_EX, ty_EX, rfl, by decide, wi_EX, Or.inr ⟨"CertificatePath", xw_inN 91 (by decide +kernel) rfl⟩, rfl, by decide +kernel, to_EX, tn_EX⟩
theorem fl_EX_19 : xf_L "CertificatePath$Extension" 19 5 4 2 true (.array .int) := ⟨"CertificatePath$Extension", tk_EX, ty_EX, rfl, by decide, wi_EX, Or.inl (xw_in 92 (by decide +kernel) rfl), rfl, by decide +kernel, to_EX, tn_EX⟩
theorem fl_EX_23 : xf_L "CertificatePath$Extension" 23 5 4 3 false (.int) := ⟨"CertificatePath$Extension", tk_EX, ty_EX, rfl, by decide, wi_EX, Or.inl (xw_in 93 (by decide +kernel) rfl), rfl, by decide +kernel, to_EX, tn_EX⟩
theorem ml_CT_30 : xc_L "CertificatePath$Certificate" 30 qm_NL_init 0 := ⟨Or.inl (xw_in 105 (by decide +kernel) rfl), xw_in 7 (by decide +kernel) rfl, xw_in 107 (by decide +kernel) rfl, ⟨by decide +kernel, by decide +kernel⟩, by decide +kernel⟩
theorem ml_NL_17 : xc_L "CertificatePath$NameList" 17 qm_NM_init 0 := ⟨Or.inl (xw_in 111 (by decide +kernel) rfl), xw_in 5 (by decide +kernel) rfl, xw_in 70 (by decide +kernel) rfl, ⟨by decide +kernel, by decide +kernel⟩, by decide +kernel⟩
theorem fl_NL_11 : xf_L "CertificatePath$NameList" 11 4 2 0 true (.array (.object "CertificatePath$Name")) := ⟨"CertificatePath$NameList", tk_NL, ty_NL, rfl, by decide, wi_NL, Or.inl (xw_in 112 (by decide +kernel) rfl), rfl, by decide +kernel, to_NL, tn_NL⟩
theorem fl_NL_18 : xf_L "CertificatePath$NameList" 18 4 2 1 false (.int) := ⟨"CertificatePath$NameList", tk_NL, ty_NL, rfl, by decide, wi_NL, Or.inl (xw_in 113 (by decide +kernel) rfl), rfl, by decide +kernel, to_NL, tn_NL⟩
theorem fl_CT_55 : xf_L "CertificatePath$Certificate" 55 4 2 1 false (.int) := ⟨"CertificatePath$NameList", tk_NL, ty_NL, rfl, by decide, wi_NL, Or.inr ⟨"CertificatePath", xw_inN 114 (by decide +kernel) rfl⟩, rfl, by decide +kernel, to_NL, tn_NL⟩
theorem ml_CT_38 : xc_L "CertificatePath$Certificate" 38 qm_CT_forgetExtensions 0 := ⟨Or.inl (xw_in 120 (by decide +kernel) rfl), xw_in 4 (by decide +kernel) rfl, xw_in 123 (by decide +kernel) rfl, ⟨by decide +kernel, by decide +kernel⟩, by decide +kernel⟩
theorem fl_CT_58 : xf_L "CertificatePath$Certificate" 58 6 16 0 false (.int) := ⟨"CertificatePath$Certificate", tk_CT, ty_CT, rfl, by decide, wi_CT, Or.inl (xw_in 124 (by decide +kernel) rfl), rfl, by decide +kernel, to_CT, tn_CT⟩
theorem fl_CT_12 : xf_L "CertificatePath$Certificate" 12 6 16 1 true (.object "CertificatePath$Name") := ⟨"CertificatePath$Certificate", tk_CT, ty_CT, rfl, by decide, wi_CT, Or.inl (xw_in 125 (by decide +kernel) rfl), rfl, by decide +kernel, to_CT, tn_CT⟩
theorem fl_CP_98 : xf_L "CertificatePath" 98 6 16 1 true (.object "CertificatePath$Name") := ⟨"CertificatePath$Certificate", tk_CT, ty_CT, rfl, by decide, wi_CT, Or.inr ⟨"CertificatePath", xw_inN 126 (by decide +kernel) rfl⟩, rfl, by decide +kernel, to_CT, tn_CT⟩
theorem fl_CT_61 : xf_L "CertificatePath$Certificate" 61 6 16 2 false (.int) := ⟨"CertificatePath$Certificate", tk_CT, ty_CT, rfl, by decide, wi_CT, Or.inl (xw_in 127 (by decide +kernel) rfl), rfl, by decide +kernel, to_CT, tn_CT⟩
theorem fl_CP_115 : xf_L "CertificatePath" 115 6 16 2 false (.int) := ⟨"CertificatePath$Certificate", tk_CT, ty_CT, rfl, by decide, wi_CT, Or.inr ⟨"CertificatePath", xw_inN 128 (by decide +kernel) rfl⟩, rfl, by decide +kernel, to_CT, tn_CT⟩
theorem fl_CT_64 : xf_L "CertificatePath$Certificate" 64 6 16 3 false (.int) := ⟨"CertificatePath$Certificate", tk_CT, ty_CT, rfl, by decide, wi_CT, Or.inl (xw_in 129 (by decide +kernel) rfl), rfl, by decide +kernel, to_CT, tn_CT⟩
theorem fl_CP_118 : xf_L "CertificatePath" 118 6 16 3 false (.int) := ⟨"CertificatePath$Certificate", tk_CT, ty_CT, rfl, by decide, wi_CT, Or.inr ⟨"CertificatePath", xw_inN 130 (by decide +kernel) rfl⟩, rfl, by decide +kernel, to_CT, tn_CT⟩
theorem fl_CT_18 : xf_L "CertificatePath$Certificate" 18 6 16 4 true (.object "CertificatePath$Name") := ⟨"CertificatePath$Certificate", tk_CT, ty_CT, rfl, by decide, wi_CT, Or.inl (xw_in 131 (by decide +kernel) rfl), rfl, by decide +kernel, to_CT, tn_CT⟩
theorem fl_CP_102 : xf_L "CertificatePath" 102 6 16 4 true (.object "CertificatePath$Name") := ⟨"CertificatePath$Certificate", tk_CT, ty_CT, rfl, by decide, wi_CT, Or.inr ⟨"CertificatePath", xw_inN 132 (by decide +kernel) rfl⟩, rfl, by decide +kernel, to_CT, tn_CT⟩
theorem fl_CT_67 : xf_L "CertificatePath$Certificate" 67 6 16 5 false (.int) := ⟨"CertificatePath$Certificate", tk_CT, ty_CT, rfl, by decide, wi_CT, Or.inl (xw_in 133 (by decide +kernel) rfl), rfl, by decide +kernel, to_CT, tn_CT⟩
theorem fl_CP_105 : xf_L "CertificatePath" 105 6 16 5 false (.int) := ⟨"CertificatePath$Certificate", tk_CT, ty_CT, rfl, by decide, wi_CT, Or.inr ⟨"CertificatePath", xw_inN 134 (by decide +kernel) rfl⟩, rfl, by decide +kernel, to_CT, tn_CT⟩
theorem fl_CT_70 : xf_L "CertificatePath$Certificate" 70 6 16 6 false (.int) := ⟨"CertificatePath$Certificate", tk_CT, ty_CT, rfl, by decide, wi_CT, Or.inl (xw_in 135 (by decide +kernel) rfl), rfl, by decide +kernel, to_CT, tn_CT⟩
theorem fl_CP_108 : xf_L "CertificatePath" 108 6 16 6 false (.int) := ⟨"CertificatePath$Certificate", tk_CT, ty_CT, rfl, by decide, wi_CT, Or.inr ⟨"CertificatePath", xw_inN 136 (by decide +kernel) rfl⟩, rfl, by decide +kernel, to_CT, tn_CT⟩
theorem fl_CT_73 : xf_L "CertificatePath$Certificate" 73 6 16 7 false (.int) := ⟨"CertificatePath$Certificate", tk_CT, ty_CT, rfl, by decide, wi_CT, Or.inl (xw_in 137 (by decide +kernel) rfl), rfl, by decide +kernel, to_CT, tn_CT⟩
theorem fl_CT_76 : xf_L "CertificatePath$Certificate" 76 6 16 8 false (.int) := ⟨"CertificatePath$Certificate", tk_CT, ty_CT, rfl, by decide, wi_CT, Or.inl (xw_in 138 (by decide +kernel) rfl), rfl, by decide +kernel, to_CT, tn_CT⟩
theorem fl_CT_23 : xf_L "CertificatePath$Certificate" 23 6 16 9 true (.array (.object "CertificatePath$Extension")) := ⟨"CertificatePath$Certificate", tk_CT, ty_CT, rfl, by decide, wi_CT, Or.inl (xw_in 139 (by decide +kernel) rfl), rfl, by decide +kernel, to_CT, tn_CT⟩
theorem fl_CT_41 : xf_L "CertificatePath$Certificate" 41 6 16 10 false (.int) := ⟨"CertificatePath$Certificate", tk_CT, ty_CT, rfl, by decide, wi_CT, Or.inl (xw_in 140 (by decide +kernel) rfl), rfl, by decide +kernel, to_CT, tn_CT⟩
theorem fl_CT_45 : xf_L "CertificatePath$Certificate" 45 6 16 11 false (.boolean) := ⟨"CertificatePath$Certificate", tk_CT, ty_CT, rfl, by decide, wi_CT, Or.inl (xw_in 141 (by decide +kernel) rfl), rfl, by decide +kernel, to_CT, tn_CT⟩
theorem fl_CT_49 : xf_L "CertificatePath$Certificate" 49 6 16 12 false (.int) := ⟨"CertificatePath$Certificate", tk_CT, ty_CT, rfl, by decide, wi_CT, Or.inl (xw_in 142 (by decide +kernel) rfl), rfl, by decide +kernel, to_CT, tn_CT⟩
theorem fl_CT_52 : xf_L "CertificatePath$Certificate" 52 6 16 13 false (.int) := ⟨"CertificatePath$Certificate", tk_CT, ty_CT, rfl, by decide, wi_CT, Or.inl (xw_in 143 (by decide +kernel) rfl), rfl, by decide +kernel, to_CT, tn_CT⟩
theorem fl_CT_31 : xf_L "CertificatePath$Certificate" 31 6 16 14 true (.object "CertificatePath$NameList") := ⟨"CertificatePath$Certificate", tk_CT, ty_CT, rfl, by decide, wi_CT, Or.inl (xw_in 144 (by decide +kernel) rfl), rfl, by decide +kernel, to_CT, tn_CT⟩
theorem fl_CT_35 : xf_L "CertificatePath$Certificate" 35 6 16 15 true (.object "CertificatePath$NameList") := ⟨"CertificatePath$Certificate", tk_CT, ty_CT, rfl, by decide, wi_CT, Or.inl (xw_in 145 (by decide +kernel) rfl), rfl, by decide +kernel, to_CT, tn_CT⟩
theorem fl_CP_10 : xf_L "CertificatePath" 10 0 6 0 true (.object "CertificatePath$Reader") := ⟨"CertificatePath", tk_CP, ty_CP, rfl, by decide, wi_CP, Or.inl (xw_in 179 (by decide +kernel) rfl), rfl, by decide +kernel, to_CP, tn_CP⟩
theorem fl_CP_20 : xf_L "CertificatePath" 20 0 6 1 true (.object "CertificatePath$ByteRow") := ⟨"CertificatePath", tk_CP, ty_CP, rfl, by decide, wi_CP, Or.inl (xw_in 180 (by decide +kernel) rfl), rfl, by decide +kernel, to_CP, tn_CP⟩
theorem fl_CP_25 : xf_L "CertificatePath" 25 0 6 2 true (.array (.object "CertificatePath$Certificate")) := ⟨"CertificatePath", tk_CP, ty_CP, rfl, by decide, wi_CP, Or.inl (xw_in 181 (by decide +kernel) rfl), rfl, by decide +kernel, to_CP, tn_CP⟩
theorem fl_CP_30 : xf_L "CertificatePath" 30 0 6 3 false (.int) := ⟨"CertificatePath", tk_CP, ty_CP, rfl, by decide, wi_CP, Or.inl (xw_in 182 (by decide +kernel) rfl), rfl, by decide +kernel, to_CP, tn_CP⟩
theorem fl_CP_34 : xf_L "CertificatePath" 34 0 6 4 true (.array .int) := ⟨"CertificatePath", tk_CP, ty_CP, rfl, by decide, wi_CP, Or.inl (xw_in 183 (by decide +kernel) rfl), rfl, by decide +kernel, to_CP, tn_CP⟩
theorem fl_CP_38 : xf_L "CertificatePath" 38 0 6 5 false (.int) := ⟨"CertificatePath", tk_CP, ty_CP, rfl, by decide, wi_CP, Or.inl (xw_in 184 (by decide +kernel) rfl), rfl, by decide +kernel, to_CP, tn_CP⟩
theorem ml_LW_13 : xc_L "CertificatePathLaw" 13 qm_CP_feed 2 := ⟨Or.inl (xw_in 198 (by decide +kernel) rfl), xw_in 1 (by decide +kernel) rfl, xw_in 201 (by decide +kernel) rfl, ⟨by decide +kernel, by decide +kernel⟩, by decide +kernel⟩
theorem ml_CP_46 : xc_L "CertificatePath" 46 qm_BR_append 1 := ⟨Or.inl (xw_in 202 (by decide +kernel) rfl), xw_in 3 (by decide +kernel) rfl, xw_in 205 (by decide +kernel) rfl, ⟨by decide +kernel, by decide +kernel⟩, by decide +kernel⟩
theorem ml_LW_18 : xc_L "CertificatePathLaw" 18 qm_CP_set 2 := ⟨Or.inl (xw_in 206 (by decide +kernel) rfl), xw_in 1 (by decide +kernel) rfl, xw_in 209 (by decide +kernel) rfl, ⟨by decide +kernel, by decide +kernel⟩, by decide +kernel⟩
theorem ml_CP_50 : xc_L "CertificatePath" 50 qm_BR_has 1 := ⟨Or.inl (xw_in 210 (by decide +kernel) rfl), xw_in 3 (by decide +kernel) rfl, xw_in 213 (by decide +kernel) rfl, ⟨by decide +kernel, by decide +kernel⟩, by decide +kernel⟩
theorem ml_LW_22 : xc_L "CertificatePathLaw" 22 qm_CP_trim 1 := ⟨Or.inl (xw_in 214 (by decide +kernel) rfl), xw_in 1 (by decide +kernel) rfl, xw_in 217 (by decide +kernel) rfl, ⟨by decide +kernel, by decide +kernel⟩, by decide +kernel⟩
theorem ml_LW_27 : xc_L "CertificatePathLaw" 27 qm_CP_length 0 := ⟨Or.inl (xw_in 218 (by decide +kernel) rfl), xw_in 1 (by decide +kernel) rfl, xw_in 221 (by decide +kernel) rfl, ⟨by decide +kernel, by decide +kernel⟩, by decide +kernel⟩
theorem ml_LW_32 : xc_L "CertificatePathLaw" 32 qm_CP_byteAt 1 := ⟨Or.inl (xw_in 222 (by decide +kernel) rfl), xw_in 1 (by decide +kernel) rfl, xw_in 225 (by decide +kernel) rfl, ⟨by decide +kernel, by decide +kernel⟩, by decide +kernel⟩
theorem ml_LW_37 : xc_L "CertificatePathLaw" 37 qm_CP_hash 2 := ⟨Or.inl (xw_in 226 (by decide +kernel) rfl), xw_in 1 (by decide +kernel) rfl, xw_in 229 (by decide +kernel) rfl, ⟨by decide +kernel, by decide +kernel⟩, by decide +kernel⟩
theorem ml_CP_57 : xc_L "CertificatePath" 57 qm_BR_hashBetween 2 := ⟨Or.inl (xw_in 230 (by decide +kernel) rfl), xw_in 3 (by decide +kernel) rfl, xw_in 233 (by decide +kernel) rfl, ⟨by decide +kernel, by decide +kernel⟩, by decide +kernel⟩
theorem ml_LW_42 : xc_L "CertificatePathLaw" 42 qm_CP_accept 0 := ⟨Or.inl (xw_in 235 (by decide +kernel) rfl), xw_in 1 (by decide +kernel) rfl, xw_in 238 (by decide +kernel) rfl, ⟨by decide +kernel, by decide +kernel⟩, by decide +kernel⟩
theorem ml_CP_61 : xc_L "CertificatePath" 61 qm_CT_readFrom 1 := ⟨Or.inl (xw_in 239 (by decide +kernel) rfl), xw_in 4 (by decide +kernel) rfl, xw_in 242 (by decide +kernel) rfl, ⟨by decide +kernel, by decide +kernel⟩, by decide +kernel⟩
theorem ml_CT_97 : xc_L "CertificatePath$Certificate" 97 qm_RD_start 0 := ⟨Or.inl (xw_in 243 (by decide +kernel) rfl), xw_in 2 (by decide +kernel) rfl, xw_in 246 (by decide +kernel) rfl, ⟨by decide +kernel, by decide +kernel⟩, by decide +kernel⟩
theorem ml_CT_102 : xc_L "CertificatePath$Certificate" 102 qm_RD_open 1 := ⟨Or.inl (xw_in 247 (by decide +kernel) rfl), xw_in 2 (by decide +kernel) rfl, xw_in 250 (by decide +kernel) rfl, ⟨by decide +kernel, by decide +kernel⟩, by decide +kernel⟩
theorem ml_CT_109 : xc_L "CertificatePath$Certificate" 109 qm_CT_readHead 1 := ⟨Or.inl (xw_in 251 (by decide +kernel) rfl), xw_in 4 (by decide +kernel) rfl, xw_in 254 (by decide +kernel) rfl, ⟨by decide +kernel, by decide +kernel⟩, by decide +kernel⟩
theorem ml_CT_133 : xc_L "CertificatePath$Certificate" 133 qm_RD_readInteger 2 := ⟨Or.inl (xw_in 256 (by decide +kernel) rfl), xw_in 2 (by decide +kernel) rfl, xw_in 259 (by decide +kernel) rfl, ⟨by decide +kernel, by decide +kernel⟩, by decide +kernel⟩
theorem ml_RD_43 : xc_L "CertificatePath$Reader" 43 qm_RD_open 1 := ⟨Or.inl (xw_in 260 (by decide +kernel) rfl), xw_in 2 (by decide +kernel) rfl, xw_in 250 (by decide +kernel) rfl, ⟨by decide +kernel, by decide +kernel⟩, by decide +kernel⟩
theorem ml_RD_47 : xc_L "CertificatePath$Reader" 47 qm_RD_remaining 0 := ⟨Or.inl (xw_in 261 (by decide +kernel) rfl), xw_in 2 (by decide +kernel) rfl, xw_in 264 (by decide +kernel) rfl, ⟨by decide +kernel, by decide +kernel⟩, by decide +kernel⟩
theorem ml_RD_51 : xc_L "CertificatePath$Reader" 51 qm_RD_refuse 0 := ⟨Or.inl (xw_in 265 (by decide +kernel) rfl), xw_in 2 (by decide +kernel) rfl, xw_in 268 (by decide +kernel) rfl, ⟨by decide +kernel, by decide +kernel⟩, by decide +kernel⟩
theorem ml_RD_54 : xc_L "CertificatePath$Reader" 54 qm_RD_readByte 0 := ⟨Or.inl (xw_in 269 (by decide +kernel) rfl), xw_in 2 (by decide +kernel) rfl, xw_in 272 (by decide +kernel) rfl, ⟨by decide +kernel, by decide +kernel⟩, by decide +kernel⟩
theorem ml_RD_57 : xc_L "CertificatePath$Reader" 57 qm_RD_close 0 := ⟨Or.inl (xw_in 273 (by decide +kernel) rfl), xw_in 2 (by decide +kernel) rfl, xw_in 276 (by decide +kernel) rfl, ⟨by decide +kernel, by decide +kernel⟩, by decide +kernel⟩
theorem ml_CT_140 : xc_L "CertificatePath$Certificate" 140 qm_NM_readFrom 1 := ⟨Or.inl (xw_in 277 (by decide +kernel) rfl), xw_in 5 (by decide +kernel) rfl, xw_in 280 (by decide +kernel) rfl, ⟨by decide +kernel, by decide +kernel⟩, by decide +kernel⟩
theorem ml_NM_23 : xc_L "CertificatePath$Name" 23 qm_RD_open 1 := ⟨Or.inl (xw_in 281 (by decide +kernel) rfl), xw_in 2 (by decide +kernel) rfl, xw_in 250 (by decide +kernel) rfl, ⟨by decide +kernel, by decide +kernel⟩, by decide +kernel⟩
theorem ml_NM_29 : xc_L "CertificatePath$Name" 29 qm_RD_remaining 0 := ⟨Or.inl (xw_in 282 (by decide +kernel) rfl), xw_in 2 (by decide +kernel) rfl, xw_in 264 (by decide +kernel) rfl, ⟨by decide +kernel, by decide +kernel⟩, by decide +kernel⟩
theorem ml_NM_33 : xc_L "CertificatePath$Name" 33 qm_RD_readByte 0 := ⟨Or.inl (xw_in 283 (by decide +kernel) rfl), xw_in 2 (by decide +kernel) rfl, xw_in 272 (by decide +kernel) rfl, ⟨by decide +kernel, by decide +kernel⟩, by decide +kernel⟩
theorem ml_NM_36 : xc_L "CertificatePath$Name" 36 qm_RD_refuse 0 := ⟨Or.inl (xw_in 284 (by decide +kernel) rfl), xw_in 2 (by decide +kernel) rfl, xw_in 268 (by decide +kernel) rfl, ⟨by decide +kernel, by decide +kernel⟩, by decide +kernel⟩
theorem ml_NM_39 : xc_L "CertificatePath$Name" 39 qm_RD_close 0 := ⟨Or.inl (xw_in 285 (by decide +kernel) rfl), xw_in 2 (by decide +kernel) rfl, xw_in 276 (by decide +kernel) rfl, ⟨by decide +kernel, by decide +kernel⟩, by decide +kernel⟩
theorem ml_CT_125 : xc_L "CertificatePath$Certificate" 125 qm_RD_close 0 := ⟨Or.inl (xw_in 286 (by decide +kernel) rfl), xw_in 2 (by decide +kernel) rfl, xw_in 276 (by decide +kernel) rfl, ⟨by decide +kernel, by decide +kernel⟩, by decide +kernel⟩
theorem ml_CT_113 : xc_L "CertificatePath$Certificate" 113 qm_RD_nextIs 1 := ⟨Or.inl (xw_in 287 (by decide +kernel) rfl), xw_in 2 (by decide +kernel) rfl, xw_in 290 (by decide +kernel) rfl, ⟨by decide +kernel, by decide +kernel⟩, by decide +kernel⟩
theorem ml_CT_117 : xc_L "CertificatePath$Certificate" 117 qm_CT_readExtension 2 := ⟨Or.inl (xw_in 291 (by decide +kernel) rfl), xw_in 4 (by decide +kernel) rfl, xw_in 294 (by decide +kernel) rfl, ⟨by decide +kernel, by decide +kernel⟩, by decide +kernel⟩
theorem ml_CT_143 : xc_L "CertificatePath$Certificate" 143 qm_CT_hasExtension 1 := ⟨Or.inl (xw_in 295 (by decide +kernel) rfl), xw_in 4 (by decide +kernel) rfl, xw_in 298 (by decide +kernel) rfl, ⟨by decide +kernel, by decide +kernel⟩, by decide +kernel⟩
theorem ml_CT_146 : xc_L "CertificatePath$Certificate" 146 qm_RD_refuse 0 := ⟨Or.inl (xw_in 299 (by decide +kernel) rfl), xw_in 2 (by decide +kernel) rfl, xw_in 268 (by decide +kernel) rfl, ⟨by decide +kernel, by decide +kernel⟩, by decide +kernel⟩
theorem ml_CT_152 : xc_L "CertificatePath$Certificate" 152 qm_RD_readTrueIfThere 0 := ⟨Or.inl (xw_in 300 (by decide +kernel) rfl), xw_in 2 (by decide +kernel) rfl, xw_in 303 (by decide +kernel) rfl, ⟨by decide +kernel, by decide +kernel⟩, by decide +kernel⟩
theorem ml_RD_60 : xc_L "CertificatePath$Reader" 60 qm_RD_nextIs 1 := ⟨Or.inl (xw_in 304 (by decide +kernel) rfl), xw_in 2 (by decide +kernel) rfl, xw_in 290 (by decide +kernel) rfl, ⟨by decide +kernel, by decide +kernel⟩, by decide +kernel⟩
theorem ml_CT_155 : xc_L "CertificatePath$Certificate" 155 qm_CT_readBasic 1 := ⟨Or.inl (xw_in 305 (by decide +kernel) rfl), xw_in 4 (by decide +kernel) rfl, xw_in 308 (by decide +kernel) rfl, ⟨by decide +kernel, by decide +kernel⟩, by decide +kernel⟩
theorem ml_CT_121 : xc_L "CertificatePath$Certificate" 121 qm_RD_remaining 0 := ⟨Or.inl (xw_in 309 (by decide +kernel) rfl), xw_in 2 (by decide +kernel) rfl, xw_in 264 (by decide +kernel) rfl, ⟨by decide +kernel, by decide +kernel⟩, by decide +kernel⟩
theorem ml_CT_158 : xc_L "CertificatePath$Certificate" 158 qm_CT_readUsage 1 := ⟨Or.inl (xw_in 310 (by decide +kernel) rfl), xw_in 4 (by decide +kernel) rfl, xw_in 313 (by decide +kernel) rfl, ⟨by decide +kernel, by decide +kernel⟩, by decide +kernel⟩
theorem ml_CT_167 : xc_L "CertificatePath$Certificate" 167 qm_RD_readByte 0 := ⟨Or.inl (xw_in 314 (by decide +kernel) rfl), xw_in 2 (by decide +kernel) rfl, xw_in 272 (by decide +kernel) rfl, ⟨by decide +kernel, by decide +kernel⟩, by decide +kernel⟩
theorem ml_CT_170 : xc_L "CertificatePath$Certificate" 170 qm_CT_zerosBehind 1 := ⟨Or.inl (xw_in 315 (by decide +kernel) rfl), xw_in 4 (by decide +kernel) rfl, xw_in 317 (by decide +kernel) rfl, ⟨by decide +kernel, by decide +kernel⟩, by decide +kernel⟩
theorem ml_CT_173 : xc_L "CertificatePath$Certificate" 173 qm_CT_mirrored 1 := ⟨Or.inl (xw_in 318 (by decide +kernel) rfl), xw_in 4 (by decide +kernel) rfl, xw_in 320 (by decide +kernel) rfl, ⟨by decide +kernel, by decide +kernel⟩, by decide +kernel⟩
theorem ml_CT_161 : xc_L "CertificatePath$Certificate" 161 qm_CT_readBounds 1 := ⟨Or.inl (xw_in 321 (by decide +kernel) rfl), xw_in 4 (by decide +kernel) rfl, xw_in 324 (by decide +kernel) rfl, ⟨by decide +kernel, by decide +kernel⟩, by decide +kernel⟩
theorem ml_CT_176 : xc_L "CertificatePath$Certificate" 176 qm_NL_readIfThere 2 := ⟨Or.inl (xw_in 325 (by decide +kernel) rfl), xw_in 7 (by decide +kernel) rfl, xw_in 328 (by decide +kernel) rfl, ⟨by decide +kernel, by decide +kernel⟩, by decide +kernel⟩
theorem ml_NL_26 : xc_L "CertificatePath$NameList" 26 qm_RD_nextIs 1 := ⟨Or.inl (xw_in 329 (by decide +kernel) rfl), xw_in 2 (by decide +kernel) rfl, xw_in 290 (by decide +kernel) rfl, ⟨by decide +kernel, by decide +kernel⟩, by decide +kernel⟩
theorem ml_NL_32 : xc_L "CertificatePath$NameList" 32 qm_RD_open 1 := ⟨Or.inl (xw_in 330 (by decide +kernel) rfl), xw_in 2 (by decide +kernel) rfl, xw_in 250 (by decide +kernel) rfl, ⟨by decide +kernel, by decide +kernel⟩, by decide +kernel⟩
theorem ml_NL_36 : xc_L "CertificatePath$NameList" 36 qm_NM_readFrom 1 := ⟨Or.inl (xw_in 331 (by decide +kernel) rfl), xw_in 5 (by decide +kernel) rfl, xw_in 280 (by decide +kernel) rfl, ⟨by decide +kernel, by decide +kernel⟩, by decide +kernel⟩
theorem ml_NL_40 : xc_L "CertificatePath$NameList" 40 qm_RD_remaining 0 := ⟨Or.inl (xw_in 332 (by decide +kernel) rfl), xw_in 2 (by decide +kernel) rfl, xw_in 264 (by decide +kernel) rfl, ⟨by decide +kernel, by decide +kernel⟩, by decide +kernel⟩
theorem ml_NL_44 : xc_L "CertificatePath$NameList" 44 qm_RD_close 0 := ⟨Or.inl (xw_in 333 (by decide +kernel) rfl), xw_in 2 (by decide +kernel) rfl, xw_in 276 (by decide +kernel) rfl, ⟨by decide +kernel, by decide +kernel⟩, by decide +kernel⟩
theorem ml_CT_164 : xc_L "CertificatePath$Certificate" 164 qm_EX_readOctets 1 := ⟨Or.inl (xw_in 334 (by decide +kernel) rfl), xw_in 6 (by decide +kernel) rfl, xw_in 337 (by decide +kernel) rfl, ⟨by decide +kernel, by decide +kernel⟩, by decide +kernel⟩
theorem ml_EX_26 : xc_L "CertificatePath$Extension" 26 qm_RD_remaining 0 := ⟨Or.inl (xw_in 338 (by decide +kernel) rfl), xw_in 2 (by decide +kernel) rfl, xw_in 264 (by decide +kernel) rfl, ⟨by decide +kernel, by decide +kernel⟩, by decide +kernel⟩
theorem ml_EX_32 : xc_L "CertificatePath$Extension" 32 qm_RD_refuse 0 := ⟨Or.inl (xw_in 339 (by decide +kernel) rfl), xw_in 2 (by decide +kernel) rfl, xw_in 268 (by decide +kernel) rfl, ⟨by decide +kernel, by decide +kernel⟩, by decide +kernel⟩
theorem ml_EX_35 : xc_L "CertificatePath$Extension" 35 qm_RD_readByte 0 := ⟨Or.inl (xw_in 340 (by decide +kernel) rfl), xw_in 2 (by decide +kernel) rfl, xw_in 272 (by decide +kernel) rfl, ⟨by decide +kernel, by decide +kernel⟩, by decide +kernel⟩
theorem ml_CT_128 : xc_L "CertificatePath$Certificate" 128 qm_RD_hashSince 1 := ⟨Or.inl (xw_in 341 (by decide +kernel) rfl), xw_in 2 (by decide +kernel) rfl, xw_in 344 (by decide +kernel) rfl, ⟨by decide +kernel, by decide +kernel⟩, by decide +kernel⟩
theorem ml_RD_36 : xc_L "CertificatePath$Reader" 36 qm_BR_hashBetween 2 := ⟨Or.inl (xw_in 345 (by decide +kernel) rfl), xw_in 3 (by decide +kernel) rfl, xw_in 233 (by decide +kernel) rfl, ⟨by decide +kernel, by decide +kernel⟩, by decide +kernel⟩
theorem ml_CT_137 : xc_L "CertificatePath$Certificate" 137 qm_RD_isAtEndOfRow 0 := ⟨Or.inl (xw_in 346 (by decide +kernel) rfl), xw_in 2 (by decide +kernel) rfl, xw_in 349 (by decide +kernel) rfl, ⟨by decide +kernel, by decide +kernel⟩, by decide +kernel⟩
theorem ml_LW_46 : xc_L "CertificatePathLaw" 46 qm_CP_count 0 := ⟨Or.inl (xw_in 350 (by decide +kernel) rfl), xw_in 1 (by decide +kernel) rfl, xw_in 353 (by decide +kernel) rfl, ⟨by decide +kernel, by decide +kernel⟩, by decide +kernel⟩
theorem ml_LW_50 : xc_L "CertificatePathLaw" 50 qm_CP_field 2 := ⟨Or.inl (xw_in 354 (by decide +kernel) rfl), xw_in 1 (by decide +kernel) rfl, xw_in 357 (by decide +kernel) rfl, ⟨by decide +kernel, by decide +kernel⟩, by decide +kernel⟩
theorem ml_CP_65 : xc_L "CertificatePath" 65 qm_CP_isKept 1 := ⟨Or.inl (xw_in 358 (by decide +kernel) rfl), xw_in 1 (by decide +kernel) rfl, xw_in 361 (by decide +kernel) rfl, ⟨by decide +kernel, by decide +kernel⟩, by decide +kernel⟩
theorem ml_CP_68 : xc_L "CertificatePath" 68 qm_CT_fieldNumbered 1 := ⟨Or.inl (xw_in 362 (by decide +kernel) rfl), xw_in 4 (by decide +kernel) rfl, xw_in 365 (by decide +kernel) rfl, ⟨by decide +kernel, by decide +kernel⟩, by decide +kernel⟩
theorem ml_LW_54 : xc_L "CertificatePathLaw" 54 qm_CP_within 4 := ⟨Or.inl (xw_in 366 (by decide +kernel) rfl), xw_in 1 (by decide +kernel) rfl, xw_in 369 (by decide +kernel) rfl, ⟨by decide +kernel, by decide +kernel⟩, by decide +kernel⟩
theorem ml_CP_71 : xc_L "CertificatePath" 71 qm_CP_nameOf 2 := ⟨Or.inl (xw_in 370 (by decide +kernel) rfl), xw_in 1 (by decide +kernel) rfl, xw_in 373 (by decide +kernel) rfl, ⟨by decide +kernel, by decide +kernel⟩, by decide +kernel⟩
theorem ml_CP_75 : xc_L "CertificatePath" 75 qm_NM_isWithin 1 := ⟨Or.inl (xw_in 374 (by decide +kernel) rfl), xw_in 5 (by decide +kernel) rfl, xw_in 377 (by decide +kernel) rfl, ⟨by decide +kernel, by decide +kernel⟩, by decide +kernel⟩
theorem ml_LW_59 : xc_L "CertificatePathLaw" 59 qm_CP_recode 1 := ⟨Or.inl (xw_in 378 (by decide +kernel) rfl), xw_in 1 (by decide +kernel) rfl, xw_in 381 (by decide +kernel) rfl, ⟨by decide +kernel, by decide +kernel⟩, by decide +kernel⟩
theorem ml_CP_81 : xc_L "CertificatePath" 81 qm_CT_writeTo 1 := ⟨Or.inl (xw_in 382 (by decide +kernel) rfl), xw_in 4 (by decide +kernel) rfl, xw_in 385 (by decide +kernel) rfl, ⟨by decide +kernel, by decide +kernel⟩, by decide +kernel⟩
theorem ml_CT_180 : xc_L "CertificatePath$Certificate" 180 qm_BR_append 1 := ⟨Or.inl (xw_in 386 (by decide +kernel) rfl), xw_in 3 (by decide +kernel) rfl, xw_in 205 (by decide +kernel) rfl, ⟨by decide +kernel, by decide +kernel⟩, by decide +kernel⟩
theorem ml_CT_185 : xc_L "CertificatePath$Certificate" 185 qm_CT_writeHead 1 := ⟨Or.inl (xw_in 387 (by decide +kernel) rfl), xw_in 4 (by decide +kernel) rfl, xw_in 390 (by decide +kernel) rfl, ⟨by decide +kernel, by decide +kernel⟩, by decide +kernel⟩
theorem ml_CT_196 : xc_L "CertificatePath$Certificate" 196 qm_BR_appendInteger 1 := ⟨Or.inl (xw_in 391 (by decide +kernel) rfl), xw_in 3 (by decide +kernel) rfl, xw_in 394 (by decide +kernel) rfl, ⟨by decide +kernel, by decide +kernel⟩, by decide +kernel⟩
theorem ml_BR_20 : xc_L "CertificatePath$ByteRow" 20 qm_BR_append 1 := ⟨Or.inl (xw_in 395 (by decide +kernel) rfl), xw_in 3 (by decide +kernel) rfl, xw_in 205 (by decide +kernel) rfl, ⟨by decide +kernel, by decide +kernel⟩, by decide +kernel⟩
theorem ml_BR_24 : xc_L "CertificatePath$ByteRow" 24 qm_BR_insertLength 1 := ⟨Or.inl (xw_in 396 (by decide +kernel) rfl), xw_in 3 (by decide +kernel) rfl, xw_in 399 (by decide +kernel) rfl, ⟨by decide +kernel, by decide +kernel⟩, by decide +kernel⟩
theorem ml_CT_199 : xc_L "CertificatePath$Certificate" 199 qm_NM_writeTo 1 := ⟨Or.inl (xw_in 400 (by decide +kernel) rfl), xw_in 5 (by decide +kernel) rfl, xw_in 403 (by decide +kernel) rfl, ⟨by decide +kernel, by decide +kernel⟩, by decide +kernel⟩
theorem ml_NM_42 : xc_L "CertificatePath$Name" 42 qm_BR_append 1 := ⟨Or.inl (xw_in 404 (by decide +kernel) rfl), xw_in 3 (by decide +kernel) rfl, xw_in 205 (by decide +kernel) rfl, ⟨by decide +kernel, by decide +kernel⟩, by decide +kernel⟩
theorem ml_NM_48 : xc_L "CertificatePath$Name" 48 qm_BR_insertLength 1 := ⟨Or.inl (xw_in 405 (by decide +kernel) rfl), xw_in 3 (by decide +kernel) rfl, xw_in 399 (by decide +kernel) rfl, ⟨by decide +kernel, by decide +kernel⟩, by decide +kernel⟩
theorem ml_CT_193 : xc_L "CertificatePath$Certificate" 193 qm_BR_insertLength 1 := ⟨Or.inl (xw_in 406 (by decide +kernel) rfl), xw_in 3 (by decide +kernel) rfl, xw_in 399 (by decide +kernel) rfl, ⟨by decide +kernel, by decide +kernel⟩, by decide +kernel⟩
theorem ml_CT_189 : xc_L "CertificatePath$Certificate" 189 qm_CT_writeExtension 2 := ⟨Or.inl (xw_in 407 (by decide +kernel) rfl), xw_in 4 (by decide +kernel) rfl, xw_in 410 (by decide +kernel) rfl, ⟨by decide +kernel, by decide +kernel⟩, by decide +kernel⟩
theorem ml_CT_202 : xc_L "CertificatePath$Certificate" 202 qm_BR_appendTrue 0 := ⟨Or.inl (xw_in 411 (by decide +kernel) rfl), xw_in 3 (by decide +kernel) rfl, xw_in 414 (by decide +kernel) rfl, ⟨by decide +kernel, by decide +kernel⟩, by decide +kernel⟩
theorem ml_CT_205 : xc_L "CertificatePath$Certificate" 205 qm_CT_writeBasic 1 := ⟨Or.inl (xw_in 415 (by decide +kernel) rfl), xw_in 4 (by decide +kernel) rfl, xw_in 418 (by decide +kernel) rfl, ⟨by decide +kernel, by decide +kernel⟩, by decide +kernel⟩
theorem ml_CT_208 : xc_L "CertificatePath$Certificate" 208 qm_CT_writeUsage 1 := ⟨Or.inl (xw_in 419 (by decide +kernel) rfl), xw_in 4 (by decide +kernel) rfl, xw_in 422 (by decide +kernel) rfl, ⟨by decide +kernel, by decide +kernel⟩, by decide +kernel⟩
theorem ml_CT_211 : xc_L "CertificatePath$Certificate" 211 qm_CT_writeBounds 1 := ⟨Or.inl (xw_in 423 (by decide +kernel) rfl), xw_in 4 (by decide +kernel) rfl, xw_in 426 (by decide +kernel) rfl, ⟨by decide +kernel, by decide +kernel⟩, by decide +kernel⟩
theorem ml_CT_217 : xc_L "CertificatePath$Certificate" 217 qm_NL_writeIfThere 2 := ⟨Or.inl (xw_in 427 (by decide +kernel) rfl), xw_in 7 (by decide +kernel) rfl, xw_in 430 (by decide +kernel) rfl, ⟨by decide +kernel, by decide +kernel⟩, by decide +kernel⟩
theorem ml_NL_47 : xc_L "CertificatePath$NameList" 47 qm_BR_append 1 := ⟨Or.inl (xw_in 431 (by decide +kernel) rfl), xw_in 3 (by decide +kernel) rfl, xw_in 205 (by decide +kernel) rfl, ⟨by decide +kernel, by decide +kernel⟩, by decide +kernel⟩
theorem ml_NL_53 : xc_L "CertificatePath$NameList" 53 qm_NM_writeTo 1 := ⟨Or.inl (xw_in 432 (by decide +kernel) rfl), xw_in 5 (by decide +kernel) rfl, xw_in 403 (by decide +kernel) rfl, ⟨by decide +kernel, by decide +kernel⟩, by decide +kernel⟩
theorem ml_NL_57 : xc_L "CertificatePath$NameList" 57 qm_BR_insertLength 1 := ⟨Or.inl (xw_in 433 (by decide +kernel) rfl), xw_in 3 (by decide +kernel) rfl, xw_in 399 (by decide +kernel) rfl, ⟨by decide +kernel, by decide +kernel⟩, by decide +kernel⟩
theorem ml_CT_214 : xc_L "CertificatePath$Certificate" 214 qm_EX_writeOctets 1 := ⟨Or.inl (xw_in 434 (by decide +kernel) rfl), xw_in 6 (by decide +kernel) rfl, xw_in 437 (by decide +kernel) rfl, ⟨by decide +kernel, by decide +kernel⟩, by decide +kernel⟩
theorem ml_EX_38 : xc_L "CertificatePath$Extension" 38 qm_BR_append 1 := ⟨Or.inl (xw_in 438 (by decide +kernel) rfl), xw_in 3 (by decide +kernel) rfl, xw_in 205 (by decide +kernel) rfl, ⟨by decide +kernel, by decide +kernel⟩, by decide +kernel⟩
theorem ml_LW_63 : xc_L "CertificatePathLaw" 63 qm_CP_link 1 := ⟨Or.inl (xw_in 439 (by decide +kernel) rfl), xw_in 1 (by decide +kernel) rfl, xw_in 442 (by decide +kernel) rfl, ⟨by decide +kernel, by decide +kernel⟩, by decide +kernel⟩
theorem ml_LW_67 : xc_L "CertificatePathLaw" 67 qm_CP_unlink 0 := ⟨Or.inl (xw_in 443 (by decide +kernel) rfl), xw_in 1 (by decide +kernel) rfl, xw_in 446 (by decide +kernel) rfl, ⟨by decide +kernel, by decide +kernel⟩, by decide +kernel⟩
theorem ml_LW_72 : xc_L "CertificatePathLaw" 72 qm_CP_links 0 := ⟨Or.inl (xw_in 447 (by decide +kernel) rfl), xw_in 1 (by decide +kernel) rfl, xw_in 450 (by decide +kernel) rfl, ⟨by decide +kernel, by decide +kernel⟩, by decide +kernel⟩
theorem ml_LW_76 : xc_L "CertificatePathLaw" 76 qm_CP_check 3 := ⟨Or.inl (xw_in 451 (by decide +kernel) rfl), xw_in 1 (by decide +kernel) rfl, xw_in 454 (by decide +kernel) rfl, ⟨by decide +kernel, by decide +kernel⟩, by decide +kernel⟩
theorem ml_CP_85 : xc_L "CertificatePath" 85 qm_CP_brokenAnywhere 3 := ⟨Or.inl (xw_in 455 (by decide +kernel) rfl), xw_in 1 (by decide +kernel) rfl, xw_in 458 (by decide +kernel) rfl, ⟨by decide +kernel, by decide +kernel⟩, by decide +kernel⟩
theorem ml_CP_111 : xc_L "CertificatePath" 111 qm_CT_isSignedBy 2 := ⟨Or.inl (xw_in 459 (by decide +kernel) rfl), xw_in 4 (by decide +kernel) rfl, xw_in 462 (by decide +kernel) rfl, ⟨by decide +kernel, by decide +kernel⟩, by decide +kernel⟩
theorem ml_CP_121 : xc_L "CertificatePath" 121 qm_NM_isSameAs 1 := ⟨Or.inl (xw_in 463 (by decide +kernel) rfl), xw_in 5 (by decide +kernel) rfl, xw_in 466 (by decide +kernel) rfl, ⟨by decide +kernel, by decide +kernel⟩, by decide +kernel⟩
theorem ml_NM_19 : xc_L "CertificatePath$Name" 19 qm_NM_isWithin 1 := ⟨Or.inl (xw_in 467 (by decide +kernel) rfl), xw_in 5 (by decide +kernel) rfl, xw_in 377 (by decide +kernel) rfl, ⟨by decide +kernel, by decide +kernel⟩, by decide +kernel⟩
theorem ml_CP_124 : xc_L "CertificatePath" 124 qm_CT_isSelfIssued 0 := ⟨Or.inl (xw_in 468 (by decide +kernel) rfl), xw_in 4 (by decide +kernel) rfl, xw_in 471 (by decide +kernel) rfl, ⟨by decide +kernel, by decide +kernel⟩, by decide +kernel⟩
theorem ml_CT_80 : xc_L "CertificatePath$Certificate" 80 qm_NM_isSameAs 1 := ⟨Or.inl (xw_in 472 (by decide +kernel) rfl), xw_in 5 (by decide +kernel) rfl, xw_in 466 (by decide +kernel) rfl, ⟨by decide +kernel, by decide +kernel⟩, by decide +kernel⟩
theorem ml_CP_128 : xc_L "CertificatePath" 128 qm_CP_isWithinBoundsBefore 1 := ⟨Or.inl (xw_in 473 (by decide +kernel) rfl), xw_in 1 (by decide +kernel) rfl, xw_in 476 (by decide +kernel) rfl, ⟨by decide +kernel, by decide +kernel⟩, by decide +kernel⟩
theorem ml_CP_134 : xc_L "CertificatePath" 134 qm_CT_allows 1 := ⟨Or.inl (xw_in 477 (by decide +kernel) rfl), xw_in 4 (by decide +kernel) rfl, xw_in 480 (by decide +kernel) rfl, ⟨by decide +kernel, by decide +kernel⟩, by decide +kernel⟩
theorem ml_CT_91 : xc_L "CertificatePath$Certificate" 91 qm_NL_covers 1 := ⟨Or.inl (xw_in 481 (by decide +kernel) rfl), xw_in 7 (by decide +kernel) rfl, xw_in 484 (by decide +kernel) rfl, ⟨by decide +kernel, by decide +kernel⟩, by decide +kernel⟩
theorem ml_NL_22 : xc_L "CertificatePath$NameList" 22 qm_NM_isWithin 1 := ⟨Or.inl (xw_in 485 (by decide +kernel) rfl), xw_in 5 (by decide +kernel) rfl, xw_in 377 (by decide +kernel) rfl, ⟨by decide +kernel, by decide +kernel⟩, by decide +kernel⟩
theorem ml_CP_131 : xc_L "CertificatePath" 131 qm_CT_hasUnknownCritical 0 := ⟨Or.inl (xw_in 486 (by decide +kernel) rfl), xw_in 4 (by decide +kernel) rfl, xw_in 489 (by decide +kernel) rfl, ⟨by decide +kernel, by decide +kernel⟩, by decide +kernel⟩
theorem ml_CT_87 : xc_L "CertificatePath$Certificate" 87 qm_EX_isKnown 0 := ⟨Or.inl (xw_in 490 (by decide +kernel) rfl), xw_in 6 (by decide +kernel) rfl, xw_in 493 (by decide +kernel) rfl, ⟨by decide +kernel, by decide +kernel⟩, by decide +kernel⟩
theorem ml_CP_89 : xc_L "CertificatePath" 89 qm_CT_brokenAsLast 1 := ⟨Or.inl (xw_in 494 (by decide +kernel) rfl), xw_in 4 (by decide +kernel) rfl, xw_in 497 (by decide +kernel) rfl, ⟨by decide +kernel, by decide +kernel⟩, by decide +kernel⟩
theorem ml_CP_92 : xc_L "CertificatePath" 92 qm_CT_brokenAsHolder 1 := ⟨Or.inl (xw_in 498 (by decide +kernel) rfl), xw_in 4 (by decide +kernel) rfl, xw_in 501 (by decide +kernel) rfl, ⟨by decide +kernel, by decide +kernel⟩, by decide +kernel⟩
theorem ml_CT_94 : xc_L "CertificatePath$Certificate" 94 qm_CT_isSelfIssued 0 := ⟨Or.inl (xw_in 502 (by decide +kernel) rfl), xw_in 4 (by decide +kernel) rfl, xw_in 471 (by decide +kernel) rfl, ⟨by decide +kernel, by decide +kernel⟩, by decide +kernel⟩
theorem ml_CP_95 : xc_L "CertificatePath" 95 qm_CT_restBehind 1 := ⟨Or.inl (xw_in 503 (by decide +kernel) rfl), xw_in 4 (by decide +kernel) rfl, xw_in 506 (by decide +kernel) rfl, ⟨by decide +kernel, by decide +kernel⟩, by decide +kernel⟩
theorem ml_LW_81 : xc_L "CertificatePathLaw" 81 qm_CP_reset 0 := ⟨Or.inl (xw_in 507 (by decide +kernel) rfl), xw_in 1 (by decide +kernel) rfl, xw_in 510 (by decide +kernel) rfl, ⟨by decide +kernel, by decide +kernel⟩, by decide +kernel⟩
theorem ml_LW_12 : xc_L "CertificatePathLaw" 12 qm_MD_init 0 := ⟨Or.inl (xw_in 513 (by decide +kernel) rfl), xw_in 8 (by decide +kernel) rfl, xw_in 515 (by decide +kernel) rfl, ⟨by decide +kernel, by decide +kernel⟩, by decide +kernel⟩
theorem fl_MD_7 : xf_L "CertificatePathModel" 7 7 43 0 false (.array .int) := ⟨"CertificatePathModel", tk_MD, ty_MD, rfl, by decide, wi_MD, Or.inl (xw_in 517 (by decide +kernel) rfl), rfl, by decide +kernel, to_MD, tn_MD⟩
theorem fl_MD_22 : xf_L "CertificatePathModel" 22 7 43 1 false (.int) := ⟨"CertificatePathModel", tk_MD, ty_MD, rfl, by decide, wi_MD, Or.inl (xw_in 518 (by decide +kernel) rfl), rfl, by decide +kernel, to_MD, tn_MD⟩
theorem fl_MD_174 : xf_L "CertificatePathModel" 174 7 43 2 false (.int) := ⟨"CertificatePathModel", tk_MD, ty_MD, rfl, by decide, wi_MD, Or.inl (xw_in 519 (by decide +kernel) rfl), rfl, by decide +kernel, to_MD, tn_MD⟩
theorem fl_MD_13 : xf_L "CertificatePathModel" 13 7 43 3 false (.array .int) := ⟨"CertificatePathModel", tk_MD, ty_MD, rfl, by decide, wi_MD, Or.inl (xw_in 520 (by decide +kernel) rfl), rfl, by decide +kernel, to_MD, tn_MD⟩
theorem fl_MD_16 : xf_L "CertificatePathModel" 16 7 43 4 false (.array .int) := ⟨"CertificatePathModel", tk_MD, ty_MD, rfl, by decide, wi_MD, Or.inl (xw_in 521 (by decide +kernel) rfl), rfl, by decide +kernel, to_MD, tn_MD⟩
theorem fl_MD_190 : xf_L "CertificatePathModel" 190 7 43 5 false (.int) := ⟨"CertificatePathModel", tk_MD, ty_MD, rfl, by decide, wi_MD, Or.inl (xw_in 522 (by decide +kernel) rfl), rfl, by decide +kernel, to_MD, tn_MD⟩
theorem fl_MD_38 : xf_L "CertificatePathModel" 38 7 43 6 false (.int) := ⟨"CertificatePathModel", tk_MD, ty_MD, rfl, by decide, wi_MD, Or.inl (xw_in 523 (by decide +kernel) rfl), rfl, by decide +kernel, to_MD, tn_MD⟩
theorem fl_MD_34 : xf_L "CertificatePathModel" 34 7 43 7 false (.boolean) := ⟨"CertificatePathModel", tk_MD, ty_MD, rfl, by decide, wi_MD, Or.inl (xw_in 524 (by decide +kernel) rfl), rfl, by decide +kernel, to_MD, tn_MD⟩
theorem fl_MD_132 : xf_L "CertificatePathModel" 132 7 43 8 false (.int) := ⟨"CertificatePathModel", tk_MD, ty_MD, rfl, by decide, wi_MD, Or.inl (xw_in 525 (by decide +kernel) rfl), rfl, by decide +kernel, to_MD, tn_MD⟩
theorem fl_MD_144 : xf_L "CertificatePathModel" 144 7 43 9 false (.int) := ⟨"CertificatePathModel", tk_MD, ty_MD, rfl, by decide, wi_MD, Or.inl (xw_in 526 (by decide +kernel) rfl), rfl, by decide +kernel, to_MD, tn_MD⟩
theorem fl_MD_147 : xf_L "CertificatePathModel" 147 7 43 10 false (.int) := ⟨"CertificatePathModel", tk_MD, ty_MD, rfl, by decide, wi_MD, Or.inl (xw_in 527 (by decide +kernel) rfl), rfl, by decide +kernel, to_MD, tn_MD⟩
theorem fl_MD_120 : xf_L "CertificatePathModel" 120 7 43 11 false (.int) := ⟨"CertificatePathModel", tk_MD, ty_MD, rfl, by decide, wi_MD, Or.inl (xw_in 528 (by decide +kernel) rfl), rfl, by decide +kernel, to_MD, tn_MD⟩
theorem fl_MD_123 : xf_L "CertificatePathModel" 123 7 43 12 false (.int) := ⟨"CertificatePathModel", tk_MD, ty_MD, rfl, by decide, wi_MD, Or.inl (xw_in 529 (by decide +kernel) rfl), rfl, by decide +kernel, to_MD, tn_MD⟩
theorem fl_MD_171 : xf_L "CertificatePathModel" 171 7 43 13 false (.int) := ⟨"CertificatePathModel", tk_MD, ty_MD, rfl, by decide, wi_MD, Or.inl (xw_in 530 (by decide +kernel) rfl), rfl, by decide +kernel, to_MD, tn_MD⟩
theorem fl_MD_129 : xf_L "CertificatePathModel" 129 7 43 14 false (.int) := ⟨"CertificatePathModel", tk_MD, ty_MD, rfl, by decide, wi_MD, Or.inl (xw_in 531 (by decide +kernel) rfl), rfl, by decide +kernel, to_MD, tn_MD⟩
theorem fl_MD_165 : xf_L "CertificatePathModel" 165 7 43 15 false (.int) := ⟨"CertificatePathModel", tk_MD, ty_MD, rfl, by decide, wi_MD, Or.inl (xw_in 532 (by decide +kernel) rfl), rfl, by decide +kernel, to_MD, tn_MD⟩
theorem fl_MD_48 : xf_L "CertificatePathModel" 48 7 43 16 false (.int) := ⟨"CertificatePathModel", tk_MD, ty_MD, rfl, by decide, wi_MD, Or.inl (xw_in 533 (by decide +kernel) rfl), rfl, by decide +kernel, to_MD, tn_MD⟩
theorem fl_MD_51 : xf_L "CertificatePathModel" 51 7 43 17 false (.int) := ⟨"CertificatePathModel", tk_MD, ty_MD, rfl, by decide, wi_MD, Or.inl (xw_in 534 (by decide +kernel) rfl), rfl, by decide +kernel, to_MD, tn_MD⟩
theorem fl_MD_54 : xf_L "CertificatePathModel" 54 7 43 18 false (.int) := ⟨"CertificatePathModel", tk_MD, ty_MD, rfl, by decide, wi_MD, Or.inl (xw_in 535 (by decide +kernel) rfl), rfl, by decide +kernel, to_MD, tn_MD⟩
theorem fl_MD_135 : xf_L "CertificatePathModel" 135 7 43 19 false (.int) := ⟨"CertificatePathModel", tk_MD, ty_MD, rfl, by decide, wi_MD, Or.inl (xw_in 536 (by decide +kernel) rfl), rfl, by decide +kernel, to_MD, tn_MD⟩
theorem fl_MD_138 : xf_L "CertificatePathModel" 138 7 43 20 false (.int) := ⟨"CertificatePathModel", tk_MD, ty_MD, rfl, by decide, wi_MD, Or.inl (xw_in 537 (by decide +kernel) rfl), rfl, by decide +kernel, to_MD, tn_MD⟩
theorem fl_MD_141 : xf_L "CertificatePathModel" 141 7 43 21 false (.int) := ⟨"CertificatePathModel", tk_MD, ty_MD, rfl, by decide, wi_MD, Or.inl (xw_in 538 (by decide +kernel) rfl), rfl, by decide +kernel, to_MD, tn_MD⟩
theorem fl_MD_150 : xf_L "CertificatePathModel" 150 7 43 22 false (.int) := ⟨"CertificatePathModel", tk_MD, ty_MD, rfl, by decide, wi_MD, Or.inl (xw_in 539 (by decide +kernel) rfl), rfl, by decide +kernel, to_MD, tn_MD⟩
theorem fl_MD_153 : xf_L "CertificatePathModel" 153 7 43 23 false (.int) := ⟨"CertificatePathModel", tk_MD, ty_MD, rfl, by decide, wi_MD, Or.inl (xw_in 540 (by decide +kernel) rfl), rfl, by decide +kernel, to_MD, tn_MD⟩
theorem fl_MD_156 : xf_L "CertificatePathModel" 156 7 43 24 false (.int) := ⟨"CertificatePathModel", tk_MD, ty_MD, rfl, by decide, wi_MD, Or.inl (xw_in 541 (by decide +kernel) rfl), rfl, by decide +kernel, to_MD, tn_MD⟩
theorem fl_MD_105 : xf_L "CertificatePathModel" 105 7 43 25 false (.int) := ⟨"CertificatePathModel", tk_MD, ty_MD, rfl, by decide, wi_MD, Or.inl (xw_in 542 (by decide +kernel) rfl), rfl, by decide +kernel, to_MD, tn_MD⟩
theorem fl_MD_19 : xf_L "CertificatePathModel" 19 7 43 26 false (.array .int) := ⟨"CertificatePathModel", tk_MD, ty_MD, rfl, by decide, wi_MD, Or.inl (xw_in 543 (by decide +kernel) rfl), rfl, by decide +kernel, to_MD, tn_MD⟩
theorem fl_MD_108 : xf_L "CertificatePathModel" 108 7 43 27 false (.boolean) := ⟨"CertificatePathModel", tk_MD, ty_MD, rfl, by decide, wi_MD, Or.inl (xw_in 544 (by decide +kernel) rfl), rfl, by decide +kernel, to_MD, tn_MD⟩
theorem fl_MD_60 : xf_L "CertificatePathModel" 60 7 43 28 false (.boolean) := ⟨"CertificatePathModel", tk_MD, ty_MD, rfl, by decide, wi_MD, Or.inl (xw_in 545 (by decide +kernel) rfl), rfl, by decide +kernel, to_MD, tn_MD⟩
theorem fl_MD_67 : xf_L "CertificatePathModel" 67 7 43 29 false (.boolean) := ⟨"CertificatePathModel", tk_MD, ty_MD, rfl, by decide, wi_MD, Or.inl (xw_in 546 (by decide +kernel) rfl), rfl, by decide +kernel, to_MD, tn_MD⟩
theorem fl_MD_74 : xf_L "CertificatePathModel" 74 7 43 30 false (.int) := ⟨"CertificatePathModel", tk_MD, ty_MD, rfl, by decide, wi_MD, Or.inl (xw_in 547 (by decide +kernel) rfl), rfl, by decide +kernel, to_MD, tn_MD⟩
theorem fl_MD_57 : xf_L "CertificatePathModel" 57 7 43 31 false (.int) := ⟨"CertificatePathModel", tk_MD, ty_MD, rfl, by decide, wi_MD, Or.inl (xw_in 548 (by decide +kernel) rfl), rfl, by decide +kernel, to_MD, tn_MD⟩
theorem fl_MD_90 : xf_L "CertificatePathModel" 90 7 43 32 false (.int) := ⟨"CertificatePathModel", tk_MD, ty_MD, rfl, by decide, wi_MD, Or.inl (xw_in 549 (by decide +kernel) rfl), rfl, by decide +kernel, to_MD, tn_MD⟩
theorem fl_MD_84 : xf_L "CertificatePathModel" 84 7 43 33 false (.int) := ⟨"CertificatePathModel", tk_MD, ty_MD, rfl, by decide, wi_MD, Or.inl (xw_in 550 (by decide +kernel) rfl), rfl, by decide +kernel, to_MD, tn_MD⟩
theorem fl_MD_93 : xf_L "CertificatePathModel" 93 7 43 34 false (.int) := ⟨"CertificatePathModel", tk_MD, ty_MD, rfl, by decide, wi_MD, Or.inl (xw_in 551 (by decide +kernel) rfl), rfl, by decide +kernel, to_MD, tn_MD⟩
theorem fl_MD_99 : xf_L "CertificatePathModel" 99 7 43 35 false (.int) := ⟨"CertificatePathModel", tk_MD, ty_MD, rfl, by decide, wi_MD, Or.inl (xw_in 552 (by decide +kernel) rfl), rfl, by decide +kernel, to_MD, tn_MD⟩
theorem fl_MD_96 : xf_L "CertificatePathModel" 96 7 43 36 false (.int) := ⟨"CertificatePathModel", tk_MD, ty_MD, rfl, by decide, wi_MD, Or.inl (xw_in 553 (by decide +kernel) rfl), rfl, by decide +kernel, to_MD, tn_MD⟩
theorem fl_MD_102 : xf_L "CertificatePathModel" 102 7 43 37 false (.int) := ⟨"CertificatePathModel", tk_MD, ty_MD, rfl, by decide, wi_MD, Or.inl (xw_in 554 (by decide +kernel) rfl), rfl, by decide +kernel, to_MD, tn_MD⟩
theorem fl_MD_199 : xf_L "CertificatePathModel" 199 7 43 38 false (.int) := ⟨"CertificatePathModel", tk_MD, ty_MD, rfl, by decide, wi_MD, Or.inl (xw_in 555 (by decide +kernel) rfl), rfl, by decide +kernel, to_MD, tn_MD⟩
theorem fl_MD_196 : xf_L "CertificatePathModel" 196 7 43 39 false (.int) := ⟨"CertificatePathModel", tk_MD, ty_MD, rfl, by decide, wi_MD, Or.inl (xw_in 556 (by decide +kernel) rfl), rfl, by decide +kernel, to_MD, tn_MD⟩
theorem fl_MD_202 : xf_L "CertificatePathModel" 202 7 43 40 false (.int) := ⟨"CertificatePathModel", tk_MD, ty_MD, rfl, by decide, wi_MD, Or.inl (xw_in 557 (by decide +kernel) rfl), rfl, by decide +kernel, to_MD, tn_MD⟩
theorem fl_MD_205 : xf_L "CertificatePathModel" 205 7 43 41 false (.int) := ⟨"CertificatePathModel", tk_MD, ty_MD, rfl, by decide, wi_MD, Or.inl (xw_in 558 (by decide +kernel) rfl), rfl, by decide +kernel, to_MD, tn_MD⟩
theorem fl_MD_219 : xf_L "CertificatePathModel" 219 7 43 42 false (.int) := ⟨"CertificatePathModel", tk_MD, ty_MD, rfl, by decide, wi_MD, Or.inl (xw_in 559 (by decide +kernel) rfl), rfl, by decide +kernel, to_MD, tn_MD⟩
theorem ml_LW_17 : xc_L "CertificatePathLaw" 17 qm_MD_feed 2 := ⟨Or.inl (xw_in 647 (by decide +kernel) rfl), xw_in 8 (by decide +kernel) rfl, xw_in 650 (by decide +kernel) rfl, ⟨by decide +kernel, by decide +kernel⟩, by decide +kernel⟩
theorem ml_LW_21 : xc_L "CertificatePathLaw" 21 qm_MD_set 2 := ⟨Or.inl (xw_in 651 (by decide +kernel) rfl), xw_in 8 (by decide +kernel) rfl, xw_in 654 (by decide +kernel) rfl, ⟨by decide +kernel, by decide +kernel⟩, by decide +kernel⟩
theorem ml_LW_26 : xc_L "CertificatePathLaw" 26 qm_MD_trim 1 := ⟨Or.inl (xw_in 655 (by decide +kernel) rfl), xw_in 8 (by decide +kernel) rfl, xw_in 658 (by decide +kernel) rfl, ⟨by decide +kernel, by decide +kernel⟩, by decide +kernel⟩
theorem ml_LW_31 : xc_L "CertificatePathLaw" 31 qm_MD_length 0 := ⟨Or.inl (xw_in 659 (by decide +kernel) rfl), xw_in 8 (by decide +kernel) rfl, xw_in 662 (by decide +kernel) rfl, ⟨by decide +kernel, by decide +kernel⟩, by decide +kernel⟩
theorem ml_LW_36 : xc_L "CertificatePathLaw" 36 qm_MD_byteAt 1 := ⟨Or.inl (xw_in 663 (by decide +kernel) rfl), xw_in 8 (by decide +kernel) rfl, xw_in 666 (by decide +kernel) rfl, ⟨by decide +kernel, by decide +kernel⟩, by decide +kernel⟩
theorem ml_LW_41 : xc_L "CertificatePathLaw" 41 qm_MD_hash 2 := ⟨Or.inl (xw_in 667 (by decide +kernel) rfl), xw_in 8 (by decide +kernel) rfl, xw_in 670 (by decide +kernel) rfl, ⟨by decide +kernel, by decide +kernel⟩, by decide +kernel⟩
theorem ml_MD_30 : xc_L "CertificatePathModel" 30 qm_MD_hashed 2 := ⟨Or.inl (xw_in 671 (by decide +kernel) rfl), xw_in 8 (by decide +kernel) rfl, xw_in 674 (by decide +kernel) rfl, ⟨by decide +kernel, by decide +kernel⟩, by decide +kernel⟩
theorem ml_LW_45 : xc_L "CertificatePathLaw" 45 qm_MD_accept 0 := ⟨Or.inl (xw_in 677 (by decide +kernel) rfl), xw_in 8 (by decide +kernel) rfl, xw_in 680 (by decide +kernel) rfl, ⟨by decide +kernel, by decide +kernel⟩, by decide +kernel⟩
theorem ml_MD_180 : xc_L "CertificatePathModel" 180 qm_MD_read 2 := ⟨Or.inl (xw_in 681 (by decide +kernel) rfl), xw_in 8 (by decide +kernel) rfl, xw_in 684 (by decide +kernel) rfl, ⟨by decide +kernel, by decide +kernel⟩, by decide +kernel⟩
theorem ml_MD_45 : xc_L "CertificatePathModel" 45 qm_MD_enter 2 := ⟨Or.inl (xw_in 685 (by decide +kernel) rfl), xw_in 8 (by decide +kernel) rfl, xw_in 688 (by decide +kernel) rfl, ⟨by decide +kernel, by decide +kernel⟩, by decide +kernel⟩
theorem ml_MD_41 : xc_L "CertificatePathModel" 41 qm_MD_tagged 2 := ⟨Or.inl (xw_in 689 (by decide +kernel) rfl), xw_in 8 (by decide +kernel) rfl, xw_in 692 (by decide +kernel) rfl, ⟨by decide +kernel, by decide +kernel⟩, by decide +kernel⟩
theorem ml_MD_168 : xc_L "CertificatePathModel" 168 qm_MD_body 1 := ⟨Or.inl (xw_in 693 (by decide +kernel) rfl), xw_in 8 (by decide +kernel) rfl, xw_in 696 (by decide +kernel) rfl, ⟨by decide +kernel, by decide +kernel⟩, by decide +kernel⟩
theorem ml_MD_70 : xc_L "CertificatePathModel" 70 qm_MD_integer 1 := ⟨Or.inl (xw_in 697 (by decide +kernel) rfl), xw_in 8 (by decide +kernel) rfl, xw_in 700 (by decide +kernel) rfl, ⟨by decide +kernel, by decide +kernel⟩, by decide +kernel⟩
theorem ml_MD_81 : xc_L "CertificatePathModel" 81 qm_MD_name 1 := ⟨Or.inl (xw_in 701 (by decide +kernel) rfl), xw_in 8 (by decide +kernel) rfl, xw_in 704 (by decide +kernel) rfl, ⟨by decide +kernel, by decide +kernel⟩, by decide +kernel⟩
theorem ml_MD_77 : xc_L "CertificatePathModel" 77 qm_MD_leave 1 := ⟨Or.inl (xw_in 705 (by decide +kernel) rfl), xw_in 8 (by decide +kernel) rfl, xw_in 708 (by decide +kernel) rfl, ⟨by decide +kernel, by decide +kernel⟩, by decide +kernel⟩
theorem ml_MD_159 : xc_L "CertificatePathModel" 159 qm_MD_key 1 := ⟨Or.inl (xw_in 709 (by decide +kernel) rfl), xw_in 8 (by decide +kernel) rfl, xw_in 712 (by decide +kernel) rfl, ⟨by decide +kernel, by decide +kernel⟩, by decide +kernel⟩
theorem ml_MD_162 : xc_L "CertificatePathModel" 162 qm_MD_more 1 := ⟨Or.inl (xw_in 713 (by decide +kernel) rfl), xw_in 8 (by decide +kernel) rfl, xw_in 716 (by decide +kernel) rfl, ⟨by decide +kernel, by decide +kernel⟩, by decide +kernel⟩
theorem ml_MD_126 : xc_L "CertificatePathModel" 126 qm_MD_extension 1 := ⟨Or.inl (xw_in 717 (by decide +kernel) rfl), xw_in 8 (by decide +kernel) rfl, xw_in 720 (by decide +kernel) rfl, ⟨by decide +kernel, by decide +kernel⟩, by decide +kernel⟩
theorem ml_MD_63 : xc_L "CertificatePathModel" 63 qm_MD_truth 1 := ⟨Or.inl (xw_in 721 (by decide +kernel) rfl), xw_in 8 (by decide +kernel) rfl, xw_in 724 (by decide +kernel) rfl, ⟨by decide +kernel, by decide +kernel⟩, by decide +kernel⟩
theorem ml_MD_111 : xc_L "CertificatePathModel" 111 qm_MD_basicContent 1 := ⟨Or.inl (xw_in 725 (by decide +kernel) rfl), xw_in 8 (by decide +kernel) rfl, xw_in 728 (by decide +kernel) rfl, ⟨by decide +kernel, by decide +kernel⟩, by decide +kernel⟩
theorem ml_MD_114 : xc_L "CertificatePathModel" 114 qm_MD_usageBits 1 := ⟨Or.inl (xw_in 729 (by decide +kernel) rfl), xw_in 8 (by decide +kernel) rfl, xw_in 732 (by decide +kernel) rfl, ⟨by decide +kernel, by decide +kernel⟩, by decide +kernel⟩
theorem ml_MD_117 : xc_L "CertificatePathModel" 117 qm_MD_bounds 1 := ⟨Or.inl (xw_in 733 (by decide +kernel) rfl), xw_in 8 (by decide +kernel) rfl, xw_in 736 (by decide +kernel) rfl, ⟨by decide +kernel, by decide +kernel⟩, by decide +kernel⟩
theorem ml_MD_87 : xc_L "CertificatePathModel" 87 qm_MD_names 2 := ⟨Or.inl (xw_in 737 (by decide +kernel) rfl), xw_in 8 (by decide +kernel) rfl, xw_in 740 (by decide +kernel) rfl, ⟨by decide +kernel, by decide +kernel⟩, by decide +kernel⟩
theorem ml_LW_49 : xc_L "CertificatePathLaw" 49 qm_MD_count 0 := ⟨Or.inl (xw_in 741 (by decide +kernel) rfl), xw_in 8 (by decide +kernel) rfl, xw_in 744 (by decide +kernel) rfl, ⟨by decide +kernel, by decide +kernel⟩, by decide +kernel⟩
theorem ml_LW_53 : xc_L "CertificatePathLaw" 53 qm_MD_field 2 := ⟨Or.inl (xw_in 745 (by decide +kernel) rfl), xw_in 8 (by decide +kernel) rfl, xw_in 748 (by decide +kernel) rfl, ⟨by decide +kernel, by decide +kernel⟩, by decide +kernel⟩
theorem ml_MD_183 : xc_L "CertificatePathModel" 183 qm_MD_fetch 1 := ⟨Or.inl (xw_in 749 (by decide +kernel) rfl), xw_in 8 (by decide +kernel) rfl, xw_in 752 (by decide +kernel) rfl, ⟨by decide +kernel, by decide +kernel⟩, by decide +kernel⟩
theorem ml_MD_177 : xc_L "CertificatePathModel" 177 qm_MD_kept 1 := ⟨Or.inl (xw_in 753 (by decide +kernel) rfl), xw_in 8 (by decide +kernel) rfl, xw_in 756 (by decide +kernel) rfl, ⟨by decide +kernel, by decide +kernel⟩, by decide +kernel⟩
theorem ml_LW_58 : xc_L "CertificatePathLaw" 58 qm_MD_within 4 := ⟨Or.inl (xw_in 757 (by decide +kernel) rfl), xw_in 8 (by decide +kernel) rfl, xw_in 760 (by decide +kernel) rfl, ⟨by decide +kernel, by decide +kernel⟩, by decide +kernel⟩
theorem ml_MD_186 : xc_L "CertificatePathModel" 186 qm_MD_inside 4 := ⟨Or.inl (xw_in 761 (by decide +kernel) rfl), xw_in 8 (by decide +kernel) rfl, xw_in 764 (by decide +kernel) rfl, ⟨by decide +kernel, by decide +kernel⟩, by decide +kernel⟩
theorem ml_LW_62 : xc_L "CertificatePathLaw" 62 qm_MD_recode 1 := ⟨Or.inl (xw_in 765 (by decide +kernel) rfl), xw_in 8 (by decide +kernel) rfl, xw_in 768 (by decide +kernel) rfl, ⟨by decide +kernel, by decide +kernel⟩, by decide +kernel⟩
theorem ml_LW_66 : xc_L "CertificatePathLaw" 66 qm_MD_link 1 := ⟨Or.inl (xw_in 769 (by decide +kernel) rfl), xw_in 8 (by decide +kernel) rfl, xw_in 772 (by decide +kernel) rfl, ⟨by decide +kernel, by decide +kernel⟩, by decide +kernel⟩
theorem ml_LW_71 : xc_L "CertificatePathLaw" 71 qm_MD_unlink 0 := ⟨Or.inl (xw_in 773 (by decide +kernel) rfl), xw_in 8 (by decide +kernel) rfl, xw_in 776 (by decide +kernel) rfl, ⟨by decide +kernel, by decide +kernel⟩, by decide +kernel⟩
theorem ml_LW_75 : xc_L "CertificatePathLaw" 75 qm_MD_links 0 := ⟨Or.inl (xw_in 777 (by decide +kernel) rfl), xw_in 8 (by decide +kernel) rfl, xw_in 780 (by decide +kernel) rfl, ⟨by decide +kernel, by decide +kernel⟩, by decide +kernel⟩
theorem ml_LW_80 : xc_L "CertificatePathLaw" 80 qm_MD_check 3 := ⟨Or.inl (xw_in 781 (by decide +kernel) rfl), xw_in 8 (by decide +kernel) rfl, xw_in 784 (by decide +kernel) rfl, ⟨by decide +kernel, by decide +kernel⟩, by decide +kernel⟩
theorem ml_MD_222 : xc_L "CertificatePathModel" 222 qm_MD_takeKey 0 := ⟨Or.inl (xw_in 785 (by decide +kernel) rfl), xw_in 8 (by decide +kernel) rfl, xw_in 788 (by decide +kernel) rfl, ⟨by decide +kernel, by decide +kernel⟩, by decide +kernel⟩
theorem ml_MD_225 : xc_L "CertificatePathModel" 225 qm_MD_broken 3 := ⟨Or.inl (xw_in 789 (by decide +kernel) rfl), xw_in 8 (by decide +kernel) rfl, xw_in 792 (by decide +kernel) rfl, ⟨by decide +kernel, by decide +kernel⟩, by decide +kernel⟩
theorem ml_MD_208 : xc_L "CertificatePathModel" 208 qm_MD_signedByKey 0 := ⟨Or.inl (xw_in 793 (by decide +kernel) rfl), xw_in 8 (by decide +kernel) rfl, xw_in 796 (by decide +kernel) rfl, ⟨by decide +kernel, by decide +kernel⟩, by decide +kernel⟩
theorem ml_MD_212 : xc_L "CertificatePathModel" 212 qm_MD_equalNames 4 := ⟨Or.inl (xw_in 797 (by decide +kernel) rfl), xw_in 8 (by decide +kernel) rfl, xw_in 800 (by decide +kernel) rfl, ⟨by decide +kernel, by decide +kernel⟩, by decide +kernel⟩
theorem ml_MD_215 : xc_L "CertificatePathModel" 215 qm_MD_passes 3 := ⟨Or.inl (xw_in 801 (by decide +kernel) rfl), xw_in 8 (by decide +kernel) rfl, xw_in 804 (by decide +kernel) rfl, ⟨by decide +kernel, by decide +kernel⟩, by decide +kernel⟩
theorem ml_MD_193 : xc_L "CertificatePathModel" 193 qm_MD_some 4 := ⟨Or.inl (xw_in 805 (by decide +kernel) rfl), xw_in 8 (by decide +kernel) rfl, xw_in 808 (by decide +kernel) rfl, ⟨by decide +kernel, by decide +kernel⟩, by decide +kernel⟩
theorem ml_LW_84 : xc_L "CertificatePathLaw" 84 qm_MD_reset 0 := ⟨Or.inl (xw_in 809 (by decide +kernel) rfl), xw_in 8 (by decide +kernel) rfl, xw_in 812 (by decide +kernel) rfl, ⟨by decide +kernel, by decide +kernel⟩, by decide +kernel⟩
theorem li_CT_forgetExtensions : xc_LV qm_CT_forgetExtensions := ⟨xw_in 122 (by decide +kernel) rfl, xw_inP 0 (by decide +kernel) rfl⟩
theorem li_CP_feed : xc_LV qm_CP_feed := ⟨xw_in 199 (by decide +kernel) rfl, xw_in 200 (by decide +kernel) rfl⟩
theorem li_BR_append : xc_LV qm_BR_append := ⟨xw_in 203 (by decide +kernel) rfl, xw_in 204 (by decide +kernel) rfl⟩
theorem li_CP_set : xc_LV qm_CP_set := ⟨xw_in 207 (by decide +kernel) rfl, xw_in 208 (by decide +kernel) rfl⟩
theorem li_BR_has : xc_LV qm_BR_has := ⟨xw_in 211 (by decide +kernel) rfl, xw_in 212 (by decide +kernel) rfl⟩
theorem li_CP_trim : xc_LV qm_CP_trim := ⟨xw_in 215 (by decide +kernel) rfl, xw_in 216 (by decide +kernel) rfl⟩
theorem li_CP_length : xc_LV qm_CP_length := ⟨xw_in 219 (by decide +kernel) rfl, xw_in 220 (by decide +kernel) rfl⟩
theorem li_CP_byteAt : xc_LV qm_CP_byteAt := ⟨xw_in 223 (by decide +kernel) rfl, xw_in 224 (by decide +kernel) rfl⟩
theorem li_CP_hash : xc_LV qm_CP_hash := ⟨xw_in 227 (by decide +kernel) rfl, xw_in 228 (by decide +kernel) rfl⟩
theorem li_BR_hashBetween : xc_LV qm_BR_hashBetween := ⟨xw_in 231 (by decide +kernel) rfl, xw_in 232 (by decide +kernel) rfl⟩
theorem li_CP_accept : xc_LV qm_CP_accept := ⟨xw_in 236 (by decide +kernel) rfl, xw_in 237 (by decide +kernel) rfl⟩
theorem li_CT_readFrom : xc_LV qm_CT_readFrom := ⟨xw_in 240 (by decide +kernel) rfl, xw_in 241 (by decide +kernel) rfl⟩
theorem li_RD_start : xc_LV qm_RD_start := ⟨xw_in 244 (by decide +kernel) rfl, xw_in 245 (by decide +kernel) rfl⟩
theorem li_RD_open : xc_LV qm_RD_open := ⟨xw_in 248 (by decide +kernel) rfl, xw_in 249 (by decide +kernel) rfl⟩
theorem li_CT_readHead : xc_LV qm_CT_readHead := ⟨xw_in 253 (by decide +kernel) rfl, xw_inP 1 (by decide +kernel) rfl⟩
theorem li_RD_readInteger : xc_LV qm_RD_readInteger := ⟨xw_in 257 (by decide +kernel) rfl, xw_in 258 (by decide +kernel) rfl⟩
theorem li_RD_remaining : xc_LV qm_RD_remaining := ⟨xw_in 262 (by decide +kernel) rfl, xw_in 263 (by decide +kernel) rfl⟩
theorem li_RD_refuse : xc_LV qm_RD_refuse := ⟨xw_in 266 (by decide +kernel) rfl, xw_in 267 (by decide +kernel) rfl⟩
theorem li_RD_readByte : xc_LV qm_RD_readByte := ⟨xw_in 270 (by decide +kernel) rfl, xw_in 271 (by decide +kernel) rfl⟩
theorem li_RD_close : xc_LV qm_RD_close := ⟨xw_in 274 (by decide +kernel) rfl, xw_in 275 (by decide +kernel) rfl⟩
theorem li_NM_readFrom : xc_LV qm_NM_readFrom := ⟨xw_in 278 (by decide +kernel) rfl, xw_in 279 (by decide +kernel) rfl⟩
theorem li_RD_nextIs : xc_LV qm_RD_nextIs := ⟨xw_in 288 (by decide +kernel) rfl, xw_in 289 (by decide +kernel) rfl⟩
theorem li_CT_readExtension : xc_LV qm_CT_readExtension := ⟨xw_in 293 (by decide +kernel) rfl, xw_inP 2 (by decide +kernel) rfl⟩
theorem li_CT_hasExtension : xc_LV qm_CT_hasExtension := ⟨xw_in 297 (by decide +kernel) rfl, xw_inP 3 (by decide +kernel) rfl⟩
theorem li_RD_readTrueIfThere : xc_LV qm_RD_readTrueIfThere := ⟨xw_in 301 (by decide +kernel) rfl, xw_in 302 (by decide +kernel) rfl⟩
theorem li_CT_readBasic : xc_LV qm_CT_readBasic := ⟨xw_in 307 (by decide +kernel) rfl, xw_inP 4 (by decide +kernel) rfl⟩
theorem li_CT_readUsage : xc_LV qm_CT_readUsage := ⟨xw_in 312 (by decide +kernel) rfl, xw_inP 5 (by decide +kernel) rfl⟩
theorem ls_CT_zerosBehind : xc_LS qm_CT_zerosBehind := xw_in 316 (by decide +kernel) rfl
theorem ls_CT_mirrored : xc_LS qm_CT_mirrored := xw_in 319 (by decide +kernel) rfl
theorem li_CT_readBounds : xc_LV qm_CT_readBounds := ⟨xw_in 323 (by decide +kernel) rfl, xw_inP 6 (by decide +kernel) rfl⟩
theorem li_NL_readIfThere : xc_LV qm_NL_readIfThere := ⟨xw_in 326 (by decide +kernel) rfl, xw_in 327 (by decide +kernel) rfl⟩
theorem li_EX_readOctets : xc_LV qm_EX_readOctets := ⟨xw_in 335 (by decide +kernel) rfl, xw_in 336 (by decide +kernel) rfl⟩
theorem li_RD_hashSince : xc_LV qm_RD_hashSince := ⟨xw_in 342 (by decide +kernel) rfl, xw_in 343 (by decide +kernel) rfl⟩
theorem li_RD_isAtEndOfRow : xc_LV qm_RD_isAtEndOfRow := ⟨xw_in 347 (by decide +kernel) rfl, xw_in 348 (by decide +kernel) rfl⟩
theorem li_CP_count : xc_LV qm_CP_count := ⟨xw_in 351 (by decide +kernel) rfl, xw_in 352 (by decide +kernel) rfl⟩
theorem li_CP_field : xc_LV qm_CP_field := ⟨xw_in 355 (by decide +kernel) rfl, xw_in 356 (by decide +kernel) rfl⟩
theorem li_CP_isKept : xc_LV qm_CP_isKept := ⟨xw_in 360 (by decide +kernel) rfl, xw_inP 7 (by decide +kernel) rfl⟩
theorem li_CT_fieldNumbered : xc_LV qm_CT_fieldNumbered := ⟨xw_in 363 (by decide +kernel) rfl, xw_in 364 (by decide +kernel) rfl⟩
theorem li_CP_within : xc_LV qm_CP_within := ⟨xw_in 367 (by decide +kernel) rfl, xw_in 368 (by decide +kernel) rfl⟩
theorem li_CP_nameOf : xc_LV qm_CP_nameOf := ⟨xw_in 372 (by decide +kernel) rfl, xw_inP 8 (by decide +kernel) rfl⟩
theorem li_NM_isWithin : xc_LV qm_NM_isWithin := ⟨xw_in 375 (by decide +kernel) rfl, xw_in 376 (by decide +kernel) rfl⟩
theorem li_CP_recode : xc_LV qm_CP_recode := ⟨xw_in 379 (by decide +kernel) rfl, xw_in 380 (by decide +kernel) rfl⟩
theorem li_CT_writeTo : xc_LV qm_CT_writeTo := ⟨xw_in 383 (by decide +kernel) rfl, xw_in 384 (by decide +kernel) rfl⟩
theorem li_CT_writeHead : xc_LV qm_CT_writeHead := ⟨xw_in 389 (by decide +kernel) rfl, xw_inP 9 (by decide +kernel) rfl⟩
theorem li_BR_appendInteger : xc_LV qm_BR_appendInteger := ⟨xw_in 392 (by decide +kernel) rfl, xw_in 393 (by decide +kernel) rfl⟩
theorem li_BR_insertLength : xc_LV qm_BR_insertLength := ⟨xw_in 397 (by decide +kernel) rfl, xw_in 398 (by decide +kernel) rfl⟩
theorem li_NM_writeTo : xc_LV qm_NM_writeTo := ⟨xw_in 401 (by decide +kernel) rfl, xw_in 402 (by decide +kernel) rfl⟩
theorem li_CT_writeExtension : xc_LV qm_CT_writeExtension := ⟨xw_in 409 (by decide +kernel) rfl, xw_inP 10 (by decide +kernel) rfl⟩
theorem li_BR_appendTrue : xc_LV qm_BR_appendTrue := ⟨xw_in 412 (by decide +kernel) rfl, xw_in 413 (by decide +kernel) rfl⟩
theorem li_CT_writeBasic : xc_LV qm_CT_writeBasic := ⟨xw_in 417 (by decide +kernel) rfl, xw_inP 11 (by decide +kernel) rfl⟩
theorem li_CT_writeUsage : xc_LV qm_CT_writeUsage := ⟨xw_in 421 (by decide +kernel) rfl, xw_inP 12 (by decide +kernel) rfl⟩
theorem li_CT_writeBounds : xc_LV qm_CT_writeBounds := ⟨xw_in 425 (by decide +kernel) rfl, xw_inP 13 (by decide +kernel) rfl⟩
theorem li_NL_writeIfThere : xc_LV qm_NL_writeIfThere := ⟨xw_in 428 (by decide +kernel) rfl, xw_in 429 (by decide +kernel) rfl⟩
theorem li_EX_writeOctets : xc_LV qm_EX_writeOctets := ⟨xw_in 435 (by decide +kernel) rfl, xw_in 436 (by decide +kernel) rfl⟩
theorem li_CP_link : xc_LV qm_CP_link := ⟨xw_in 440 (by decide +kernel) rfl, xw_in 441 (by decide +kernel) rfl⟩
theorem li_CP_unlink : xc_LV qm_CP_unlink := ⟨xw_in 444 (by decide +kernel) rfl, xw_in 445 (by decide +kernel) rfl⟩
theorem li_CP_links : xc_LV qm_CP_links := ⟨xw_in 448 (by decide +kernel) rfl, xw_in 449 (by decide +kernel) rfl⟩
theorem li_CP_check : xc_LV qm_CP_check := ⟨xw_in 452 (by decide +kernel) rfl, xw_in 453 (by decide +kernel) rfl⟩
theorem li_CP_brokenAnywhere : xc_LV qm_CP_brokenAnywhere := ⟨xw_in 457 (by decide +kernel) rfl, xw_inP 14 (by decide +kernel) rfl⟩
theorem li_CT_isSignedBy : xc_LV qm_CT_isSignedBy := ⟨xw_in 460 (by decide +kernel) rfl, xw_in 461 (by decide +kernel) rfl⟩
theorem li_NM_isSameAs : xc_LV qm_NM_isSameAs := ⟨xw_in 464 (by decide +kernel) rfl, xw_in 465 (by decide +kernel) rfl⟩
theorem li_CT_isSelfIssued : xc_LV qm_CT_isSelfIssued := ⟨xw_in 469 (by decide +kernel) rfl, xw_in 470 (by decide +kernel) rfl⟩
theorem li_CP_isWithinBoundsBefore : xc_LV qm_CP_isWithinBoundsBefore := ⟨xw_in 475 (by decide +kernel) rfl, xw_inP 15 (by decide +kernel) rfl⟩
theorem li_CT_allows : xc_LV qm_CT_allows := ⟨xw_in 478 (by decide +kernel) rfl, xw_in 479 (by decide +kernel) rfl⟩
theorem li_NL_covers : xc_LV qm_NL_covers := ⟨xw_in 482 (by decide +kernel) rfl, xw_in 483 (by decide +kernel) rfl⟩
theorem li_CT_hasUnknownCritical : xc_LV qm_CT_hasUnknownCritical := ⟨xw_in 487 (by decide +kernel) rfl, xw_in 488 (by decide +kernel) rfl⟩
theorem li_EX_isKnown : xc_LV qm_EX_isKnown := ⟨xw_in 491 (by decide +kernel) rfl, xw_in 492 (by decide +kernel) rfl⟩
theorem li_CT_brokenAsLast : xc_LV qm_CT_brokenAsLast := ⟨xw_in 495 (by decide +kernel) rfl, xw_in 496 (by decide +kernel) rfl⟩
theorem li_CT_brokenAsHolder : xc_LV qm_CT_brokenAsHolder := ⟨xw_in 499 (by decide +kernel) rfl, xw_in 500 (by decide +kernel) rfl⟩
theorem li_CT_restBehind : xc_LV qm_CT_restBehind := ⟨xw_in 504 (by decide +kernel) rfl, xw_in 505 (by decide +kernel) rfl⟩
theorem li_CP_reset : xc_LV qm_CP_reset := ⟨xw_in 508 (by decide +kernel) rfl, xw_in 509 (by decide +kernel) rfl⟩
theorem li_MD_feed : xc_LV qm_MD_feed := ⟨xw_in 648 (by decide +kernel) rfl, xw_in 649 (by decide +kernel) rfl⟩
theorem li_MD_set : xc_LV qm_MD_set := ⟨xw_in 652 (by decide +kernel) rfl, xw_in 653 (by decide +kernel) rfl⟩
theorem li_MD_trim : xc_LV qm_MD_trim := ⟨xw_in 656 (by decide +kernel) rfl, xw_in 657 (by decide +kernel) rfl⟩
theorem li_MD_length : xc_LV qm_MD_length := ⟨xw_in 660 (by decide +kernel) rfl, xw_in 661 (by decide +kernel) rfl⟩
theorem li_MD_byteAt : xc_LV qm_MD_byteAt := ⟨xw_in 664 (by decide +kernel) rfl, xw_in 665 (by decide +kernel) rfl⟩
theorem li_MD_hash : xc_LV qm_MD_hash := ⟨xw_in 668 (by decide +kernel) rfl, xw_in 669 (by decide +kernel) rfl⟩
theorem li_MD_hashed : xc_LV qm_MD_hashed := ⟨xw_in 673 (by decide +kernel) rfl, xw_inP 16 (by decide +kernel) rfl⟩
theorem li_MD_accept : xc_LV qm_MD_accept := ⟨xw_in 678 (by decide +kernel) rfl, xw_in 679 (by decide +kernel) rfl⟩
theorem li_MD_read : xc_LV qm_MD_read := ⟨xw_in 683 (by decide +kernel) rfl, xw_inP 17 (by decide +kernel) rfl⟩
theorem li_MD_enter : xc_LV qm_MD_enter := ⟨xw_in 687 (by decide +kernel) rfl, xw_inP 18 (by decide +kernel) rfl⟩
theorem li_MD_tagged : xc_LV qm_MD_tagged := ⟨xw_in 691 (by decide +kernel) rfl, xw_inP 19 (by decide +kernel) rfl⟩
theorem li_MD_body : xc_LV qm_MD_body := ⟨xw_in 695 (by decide +kernel) rfl, xw_inP 20 (by decide +kernel) rfl⟩
theorem li_MD_integer : xc_LV qm_MD_integer := ⟨xw_in 699 (by decide +kernel) rfl, xw_inP 21 (by decide +kernel) rfl⟩
theorem li_MD_name : xc_LV qm_MD_name := ⟨xw_in 703 (by decide +kernel) rfl, xw_inP 22 (by decide +kernel) rfl⟩
theorem li_MD_leave : xc_LV qm_MD_leave := ⟨xw_in 707 (by decide +kernel) rfl, xw_inP 23 (by decide +kernel) rfl⟩
theorem li_MD_key : xc_LV qm_MD_key := ⟨xw_in 711 (by decide +kernel) rfl, xw_inP 24 (by decide +kernel) rfl⟩
theorem li_MD_more : xc_LV qm_MD_more := ⟨xw_in 715 (by decide +kernel) rfl, xw_inP 25 (by decide +kernel) rfl⟩
theorem li_MD_extension : xc_LV qm_MD_extension := ⟨xw_in 719 (by decide +kernel) rfl, xw_inP 26 (by decide +kernel) rfl⟩
theorem li_MD_truth : xc_LV qm_MD_truth := ⟨xw_in 723 (by decide +kernel) rfl, xw_inP 27 (by decide +kernel) rfl⟩
theorem li_MD_basicContent : xc_LV qm_MD_basicContent := ⟨xw_in 727 (by decide +kernel) rfl, xw_inP 28 (by decide +kernel) rfl⟩
theorem li_MD_usageBits : xc_LV qm_MD_usageBits := ⟨xw_in 731 (by decide +kernel) rfl, xw_inP 29 (by decide +kernel) rfl⟩
theorem li_MD_bounds : xc_LV qm_MD_bounds := ⟨xw_in 735 (by decide +kernel) rfl, xw_inP 30 (by decide +kernel) rfl⟩
theorem li_MD_names : xc_LV qm_MD_names := ⟨xw_in 739 (by decide +kernel) rfl, xw_inP 31 (by decide +kernel) rfl⟩
theorem li_MD_count : xc_LV qm_MD_count := ⟨xw_in 742 (by decide +kernel) rfl, xw_in 743 (by decide +kernel) rfl⟩
theorem li_MD_field : xc_LV qm_MD_field := ⟨xw_in 746 (by decide +kernel) rfl, xw_in 747 (by decide +kernel) rfl⟩
theorem li_MD_fetch : xc_LV qm_MD_fetch := ⟨xw_in 751 (by decide +kernel) rfl, xw_inP 32 (by decide +kernel) rfl⟩
theorem li_MD_kept : xc_LV qm_MD_kept := ⟨xw_in 755 (by decide +kernel) rfl, xw_inP 33 (by decide +kernel) rfl⟩
theorem li_MD_within : xc_LV qm_MD_within := ⟨xw_in 758 (by decide +kernel) rfl, xw_in 759 (by decide +kernel) rfl⟩
theorem li_MD_inside : xc_LV qm_MD_inside := ⟨xw_in 763 (by decide +kernel) rfl, xw_inP 34 (by decide +kernel) rfl⟩
theorem li_MD_recode : xc_LV qm_MD_recode := ⟨xw_in 766 (by decide +kernel) rfl, xw_in 767 (by decide +kernel) rfl⟩
theorem li_MD_link : xc_LV qm_MD_link := ⟨xw_in 770 (by decide +kernel) rfl, xw_in 771 (by decide +kernel) rfl⟩
theorem li_MD_unlink : xc_LV qm_MD_unlink := ⟨xw_in 774 (by decide +kernel) rfl, xw_in 775 (by decide +kernel) rfl⟩
theorem li_MD_links : xc_LV qm_MD_links := ⟨xw_in 778 (by decide +kernel) rfl, xw_in 779 (by decide +kernel) rfl⟩
theorem li_MD_check : xc_LV qm_MD_check := ⟨xw_in 782 (by decide +kernel) rfl, xw_in 783 (by decide +kernel) rfl⟩
theorem li_MD_takeKey : xc_LV qm_MD_takeKey := ⟨xw_in 787 (by decide +kernel) rfl, xw_inP 35 (by decide +kernel) rfl⟩
theorem li_MD_broken : xc_LV qm_MD_broken := ⟨xw_in 791 (by decide +kernel) rfl, xw_inP 36 (by decide +kernel) rfl⟩
theorem li_MD_signedByKey : xc_LV qm_MD_signedByKey := ⟨xw_in 795 (by decide +kernel) rfl, xw_inP 37 (by decide +kernel) rfl⟩
theorem li_MD_equalNames : xc_LV qm_MD_equalNames := ⟨xw_in 799 (by decide +kernel) rfl, xw_inP 38 (by decide +kernel) rfl⟩
theorem li_MD_passes : xc_LV qm_MD_passes := ⟨xw_in 803 (by decide +kernel) rfl, xw_inP 39 (by decide +kernel) rfl⟩
theorem li_MD_some : xc_LV qm_MD_some := ⟨xw_in 807 (by decide +kernel) rfl, xw_inP 40 (by decide +kernel) rfl⟩
theorem li_MD_reset : xc_LV qm_MD_reset := ⟨xw_in 810 (by decide +kernel) rfl, xw_in 811 (by decide +kernel) rfl⟩
theorem kc_BR_19 : Cond.constant "CertificatePath$ByteRow" 19 (nI 1000003) ∈ xw_W := xw_in 234 (by decide +kernel) rfl
theorem kc_CT_132 : Cond.constant "CertificatePath$Certificate" 132 (nI 2147483647) ∈ xw_W := xw_in 255 (by decide +kernel) rfl
theorem kc_MD_26 : Cond.constantLong "CertificatePathModel" 26 (lN 263) ∈ xw_W := xw_in 675 (by decide +kernel) rfl
theorem kc_MD_28 : Cond.constantLong "CertificatePathModel" 28 (lN 1000003) ∈ xw_W := xw_in 676 (by decide +kernel) rfl
end
section
/-! The memory view: the cells of the whole run are places 0, 1, ..; a place's ints (and longs) are numbers M place slot; references are a fixed table. One world for everything: no cutting out, no putting back. -/
theorem xm_eq {M : xm_M} {p k v : Nat} : xm_set M p k v p k = v := by simp [xm_set]
theorem xm_np {M : xm_M} {p k v q j : Nat} (h : q ≠ p) : xm_set M p k v q j = M q j := by simp [xm_set, h]
theorem xm_nk {M : xm_M} {p k v q j : Nat} (h : j ≠ k) : xm_set M p k v q j = M q j := by
  unfold xm_set
  split
  · simp [h]
  · rfl
theorem xm_row {M : xm_M} {p k v : Nat} : xm_set M p k v p = fun j => if j = k then v else M p j := by
  funext j
  simp [xm_set]
theorem xm_oth {M : xm_M} {p k v q : Nat} (h : q ≠ p) : xm_set M p k v q = M q := by
  funext j
  simp [xm_set, h]
theorem xl_row {l : xl_L} {p k : Nat} {v : Option Nat} : xl_set l p k v p = fun j => if j = k then v else l p j := by
  funext j
  simp [xl_set]
theorem xl_oth {l : xl_L} {p k q : Nat} {v : Option Nat} (h : q ≠ p) : xl_set l p k v q = l q := by
  funext j
  simp [xl_set, h]
def xw_slot (ad : Nat → Nat) (b : Bool) (r : Option Nat) (n : Nat) : Value := if b then va_rf (r.map ad) else .int (nI n)
def xw_fs (ad : Nat → Nat) (rk : Nat → Bool) (r : Nat → Option Nat) (f : Nat → Nat) (n : Nat) : List Value := (List.range n).map (fun k => xw_slot ad (rk k) (r k) (f k))
/-- D, the arrays' classes, what may change, the addresses -/
abbrev xw_Y : Type := va_G × (Nat → ClassId) × (Nat → Prop) × (Nat → Nat)
def xw_of (Y : xw_Y) (r : Nat → Option Nat) (f : Nat → Nat) : Nat × Nat × Nat → va_E
  | (0, ci, n) => .inr (ci, xw_fs Y.2.2.2 (xw_rk ci) r f n)
  | (1, t, n) => .inl (Y.2.1 t, n, .inl (fun j => nI (f j)))
  | (2, t, n) => .inl (Y.2.1 t, n, .inr (.inl (fun j => lN (f j))))
  | (_, t, n) => .inl (Y.2.1 t, n, .inr (.inr (.inr (.inr (fun j => (r j).map Y.2.2.2)))))
def xw_cell (Y : xw_Y) (lk : xl_L) (M : xm_M) (q : Nat) : va_E := xw_of Y (lk q) (M q) (xw_K q)
def xw_ws (Y : xw_Y) (lk : xl_L) (M : xm_M) (N : Nat) : va_W := (List.range N).map (fun q => (Y.2.2.2 q, xw_cell Y lk M q))
def xw_tys (Y : xw_Y) : List (ClassId × FieldType) := [(Y.2.1 0, .int), (Y.2.1 1, .long), (Y.2.1 2, .object xw_A2), (Y.2.1 3, .object xw_A3), (Y.2.1 4, .object xw_A4)]
theorem xw_at {Y : xw_Y} {lk : xl_L} {M : xm_M} {N q : Nat} (h : q < N) : (xw_ws Y lk M N)[q]? = some (Y.2.2.2 q, xw_cell Y lk M q) := by
  simp [xw_ws, h]
theorem xw_set {Y : xw_Y} {lk lk' : xl_L} {M M' : xm_M} {N q : Nat} {e : va_E} (h0 : xw_cell Y lk' M' q = e) (h : ∀ z, z ≠ q → lk' z = lk z ∧ M' z = M z) : (xw_ws Y lk M N).set q (Y.2.2.2 q, e) = xw_ws Y lk' M' N := by
  apply List.ext_getElem?
  intro i
  by_cases hi : i = q
  · subst hi
    by_cases hN : i < N
    · rw [xw_at hN, h0, List.getElem?_set_self (by simpa [xw_ws] using hN)]
    · rw [List.getElem?_eq_none (by simp [xw_ws]; omega), List.getElem?_eq_none (by simp [xw_ws]; omega)]
  · rw [List.getElem?_set_ne (fun e => hi e.symm)]
    obtain ⟨a, b⟩ := h i hi
    by_cases hN : i < N
    · rw [xw_at hN, xw_at hN]
      unfold xw_cell
      rw [a, b]
    · rw [List.getElem?_eq_none (by simp [xw_ws]; omega), List.getElem?_eq_none (by simp [xw_ws]; omega)]
theorem xw_fs_get {ad : Nat → Nat} {rk : Nat → Bool} {r : Nat → Option Nat} {f : Nat → Nat} {n k : Nat} (h : k < n) : (xw_fs ad rk r f n)[k]? = some (xw_slot ad (rk k) (r k) (f k)) := by
  simp [xw_fs, h]
theorem xw_fs_len {ad : Nat → Nat} {rk : Nat → Bool} {r : Nat → Option Nat} {f : Nat → Nat} {n : Nat} : (xw_fs ad rk r f n).length = n := by
  simp [xw_fs]
theorem xw_fs_set {ad : Nat → Nat} {rk : Nat → Bool} {r r' : Nat → Option Nat} {f f' : Nat → Nat} {n k : Nat} {v : Value} (hv : xw_slot ad (rk k) (r' k) (f' k) = v) (h : ∀ j, j ≠ k → r' j = r j ∧ f' j = f j) : (xw_fs ad rk r f n).set k v = xw_fs ad rk r' f' n := by
  apply List.ext_getElem?
  intro i
  by_cases hi : i = k
  · subst hi
    by_cases hN : i < n
    · rw [xw_fs_get hN, hv, List.getElem?_set_self (by rw [xw_fs_len]; exact hN)]
    · rw [List.getElem?_eq_none (by simp [xw_fs]; omega), List.getElem?_eq_none (by simp [xw_fs]; omega)]
  · rw [List.getElem?_set_ne (fun e => hi e.symm)]
    obtain ⟨a, b⟩ := h i hi
    by_cases hN : i < n
    · rw [xw_fs_get hN, xw_fs_get hN, a, b]
    · rw [List.getElem?_eq_none (by simp [xw_fs]; omega), List.getElem?_eq_none (by simp [xw_fs]; omega)]
/-- the heap holds the memory -/
def xw_B (Y : xw_Y) (lk : xl_L) (N : Nat) (M : xm_M) (t : State) : Prop := va_P Y.1 xw_Cl (xw_ws Y lk M N) t.heap ∧ va_K Y.1 xw_Cl (xw_tys Y) t ∧ va_D Y.2.2.1 (xw_ws Y lk M N)
/-- the words between nest mates -/
def xw_nest (U : State) : Prop := ∀ w ∈ xw_NW, va_Nw w U
theorem xw_nest_same {u U : State} (h : u.vm = U.vm) (hN : xw_nest u) : xw_nest U := fun w hw => va_Nw.same (xw_NWt w hw) h (hN w hw)
theorem xw_nest_warm {s U : State} (hW : s.WarmedH U.vm) (hN : xw_nest s) : xw_nest U := by
  intro w hw
  rcases xw_NWf w hw with ⟨a, i, b, n, d, h, rfl⟩ | ⟨a, i, x, h, rfl⟩
  · exact va_Nw.warmF hW (hN _ hw)
  · exact va_Nw.warmM hW (hN _ hw)
def xw_P (Y : xw_Y) (M : xm_M) (U : State) : Prop := xw_B Y xw_lk xw_N M U ∧ xw_nest U
/-- the fixed things of a walk: program, launch, environment, room, start, method, arguments, below, method, code, what is aimed at -/
abbrev xv_X : Type := Program × Launch × Env × Room × State × MethodId × Array Value × List Frame × Method × Code × (State → Prop)
abbrev xv_p (X : xv_X) : Program := X.1
abbrev xv_l (X : xv_X) : Launch := X.2.1
abbrev xv_e (X : xv_X) : Env := X.2.2.1
abbrev xv_R (X : xv_X) : Room := X.2.2.2.1
abbrev xv_s (X : xv_X) : State := X.2.2.2.2.1
abbrev xv_m (X : xv_X) : MethodId := X.2.2.2.2.2.1
abbrev xv_args (X : xv_X) : Array Value := X.2.2.2.2.2.2.1
abbrev xv_below (X : xv_X) : List Frame := X.2.2.2.2.2.2.2.1
abbrev xv_meth (X : xv_X) : Method := X.2.2.2.2.2.2.2.2.1
abbrev xv_c (X : xv_X) : Code := X.2.2.2.2.2.2.2.2.2.1
abbrev xv_Q (X : xv_X) : State → Prop := X.2.2.2.2.2.2.2.2.2.2
/-- the walk stands at pc with locals L, operands st and memory M, and comes to what is aimed at -/
def xv_V (X : xv_X) (Y : xw_Y) (nL cells slots : Nat) (lk : xl_L) (N : Nat) (M : xm_M) (pc : Nat) (L : List (Nat × Value)) (st : List Value) : Prop :=
  ∀ (H : Heap) (locs : List Loc) (ls : Array Slot), va_P Y.1 xw_Cl (xw_ws Y lk M N) H → va_D Y.2.2.1 (xw_ws Y lk M N) → va_S Y.2.2.1 (xv_s X).heap H locs → lv_has ls nL L →
    W (xv_p X) (xv_l X) (xv_e X) (xv_R X) (xv_s X) (xv_m X) (xv_args X) (xv_below X) (xv_meth X) (xv_c X) H locs cells slots (xv_Q X) (F0 (xv_m X) pc ls st)
def xv_ok (X : xv_X) (Y : xw_Y) (cc : ByteArray) (own : String) (nL : Nat) (rm : Room) : Prop :=
  (xv_p X).tables.exec = Jvm.exec ∧ (xv_c X).code = cc ∧ (xv_c X).maxLocals = nL ∧ (xv_s X).vm.findClass own = some (xv_m X).cls ∧ (∀ w ∈ xw_W, w.before (xv_args X) (xv_s X) = true) ∧ va_K Y.1 xw_Cl (xw_tys Y) (xv_s X) ∧ (xv_meth X).locks = false ∧ xv_R X = rm ∧ xw_nest (xv_s X)
end
section
section XV
variable {X : xv_X} {Y : xw_Y} {cc : ByteArray} {own : String} {nL cells slots : Nat} {rm : Room} {lk : xl_L} {N : Nat} {M : xm_M} {pc pq : Nat} {L : List (Nat × Value)} {st : List Value}

theorem xv_iadd (hX : xv_ok X Y cc own nL rm) {a b v : Int32} (d : decode cc pc = .ok (.iadd, 1)) (hv : a + b = v) (e : pc + 1 = pq) (h : xv_V X Y nL cells slots lk N M pq L (.int v :: st)) : xv_V X Y nL cells slots lk N M pc L (.int b :: .int a :: st) := by
  subst e
  subst hv
  exact fun H locs ls hP hD hS hl => lv_iadd hX.1 hX.2.1 d (h H locs ls hP hD hS hl)
theorem xv_isub (hX : xv_ok X Y cc own nL rm) {a b v : Int32} (d : decode cc pc = .ok (.isub, 1)) (hv : a - b = v) (e : pc + 1 = pq) (h : xv_V X Y nL cells slots lk N M pq L (.int v :: st)) : xv_V X Y nL cells slots lk N M pc L (.int b :: .int a :: st) := by
  subst e
  subst hv
  exact fun H locs ls hP hD hS hl => lv_isub hX.1 hX.2.1 d (h H locs ls hP hD hS hl)
theorem xv_imul (hX : xv_ok X Y cc own nL rm) {a b v : Int32} (d : decode cc pc = .ok (.imul, 1)) (hv : a * b = v) (e : pc + 1 = pq) (h : xv_V X Y nL cells slots lk N M pq L (.int v :: st)) : xv_V X Y nL cells slots lk N M pc L (.int b :: .int a :: st) := by
  subst e
  subst hv
  exact fun H locs ls hP hD hS hl => lv_imul hX.1 hX.2.1 d (h H locs ls hP hD hS hl)
theorem xv_iand (hX : xv_ok X Y cc own nL rm) {a b v : Int32} (d : decode cc pc = .ok (.iand, 1)) (hv : a &&& b = v) (e : pc + 1 = pq) (h : xv_V X Y nL cells slots lk N M pq L (.int v :: st)) : xv_V X Y nL cells slots lk N M pc L (.int b :: .int a :: st) := by
  subst e
  subst hv
  exact fun H locs ls hP hD hS hl => lv_iand hX.1 hX.2.1 d (h H locs ls hP hD hS hl)
theorem xv_ior (hX : xv_ok X Y cc own nL rm) {a b v : Int32} (d : decode cc pc = .ok (.ior, 1)) (hv : a ||| b = v) (e : pc + 1 = pq) (h : xv_V X Y nL cells slots lk N M pq L (.int v :: st)) : xv_V X Y nL cells slots lk N M pc L (.int b :: .int a :: st) := by
  subst e
  subst hv
  exact fun H locs ls hP hD hS hl => lv_ior hX.1 hX.2.1 d (h H locs ls hP hD hS hl)
theorem xv_ishl (hX : xv_ok X Y cc own nL rm) {a b v : Int32} (d : decode cc pc = .ok (.ishl, 1)) (hv : a <<< (b &&& 31) = v) (e : pc + 1 = pq) (h : xv_V X Y nL cells slots lk N M pq L (.int v :: st)) : xv_V X Y nL cells slots lk N M pc L (.int b :: .int a :: st) := by
  subst e
  subst hv
  exact fun H locs ls hP hD hS hl => lv_ishl hX.1 hX.2.1 d (h H locs ls hP hD hS hl)
theorem xv_ishr (hX : xv_ok X Y cc own nL rm) {a b v : Int32} (d : decode cc pc = .ok (.ishr, 1)) (hv : a >>> (b &&& 31) = v) (e : pc + 1 = pq) (h : xv_V X Y nL cells slots lk N M pq L (.int v :: st)) : xv_V X Y nL cells slots lk N M pc L (.int b :: .int a :: st) := by
  subst e
  subst hv
  exact fun H locs ls hP hD hS hl => lv_ishr hX.1 hX.2.1 d (h H locs ls hP hD hS hl)
theorem xv_irem (hX : xv_ok X Y cc own nL rm) {a b v : Int32} (d : decode cc pc = .ok (.irem, 1)) (hne : ¬ b = 0) (hv : a - a / b * b = v) (e : pc + 1 = pq) (h : xv_V X Y nL cells slots lk N M pq L (.int v :: st)) : xv_V X Y nL cells slots lk N M pc L (.int b :: .int a :: st) := by
  subst e
  subst hv
  exact fun H locs ls hP hD hS hl => lv_irem hX.1 hX.2.1 d hne (h H locs ls hP hD hS hl)
theorem xv_ladd (hX : xv_ok X Y cc own nL rm) {a b v : Int64} (d : decode cc pc = .ok (.ladd, 1)) (hv : a + b = v) (e : pc + 1 = pq) (h : xv_V X Y nL cells slots lk N M pq L (.long v :: st)) : xv_V X Y nL cells slots lk N M pc L (.long b :: .long a :: st) := by
  subst e
  subst hv
  exact fun H locs ls hP hD hS hl => lv_ladd hX.1 hX.2.1 d (h H locs ls hP hD hS hl)
theorem xv_lmul (hX : xv_ok X Y cc own nL rm) {a b v : Int64} (d : decode cc pc = .ok (.lmul, 1)) (hv : a * b = v) (e : pc + 1 = pq) (h : xv_V X Y nL cells slots lk N M pq L (.long v :: st)) : xv_V X Y nL cells slots lk N M pc L (.long b :: .long a :: st) := by
  subst e
  subst hv
  exact fun H locs ls hP hD hS hl => lv_lmul hX.1 hX.2.1 d (h H locs ls hP hD hS hl)
theorem xv_lor (hX : xv_ok X Y cc own nL rm) {a b v : Int64} (d : decode cc pc = .ok (.lor, 1)) (hv : a ||| b = v) (e : pc + 1 = pq) (h : xv_V X Y nL cells slots lk N M pq L (.long v :: st)) : xv_V X Y nL cells slots lk N M pc L (.long b :: .long a :: st) := by
  subst e
  subst hv
  exact fun H locs ls hP hD hS hl => lv_lor hX.1 hX.2.1 d (h H locs ls hP hD hS hl)
theorem xv_lrem (hX : xv_ok X Y cc own nL rm) {a b v : Int64} (d : decode cc pc = .ok (.lrem, 1)) (hne : ¬ b = 0) (hv : a - a / b * b = v) (e : pc + 1 = pq) (h : xv_V X Y nL cells slots lk N M pq L (.long v :: st)) : xv_V X Y nL cells slots lk N M pc L (.long b :: .long a :: st) := by
  subst e
  subst hv
  exact fun H locs ls hP hD hS hl => lv_lrem hX.1 hX.2.1 d hne (h H locs ls hP hD hS hl)
theorem xv_ixor (hX : xv_ok X Y cc own nL rm) {a b v : Int32} (d : decode cc pc = .ok (.ixor, 1)) (hv : a ^^^ b = v) (e : pc + 1 = pq) (h : xv_V X Y nL cells slots lk N M pq L (.int v :: st)) : xv_V X Y nL cells slots lk N M pc L (.int b :: .int a :: st) := by
  subst e
  subst hv
  exact fun H locs ls hP hD hS hl => lv_ixor hX.1 hX.2.1 d (h H locs ls hP hD hS hl)
theorem xv_iushr (hX : xv_ok X Y cc own nL rm) {a b v : Int32} (d : decode cc pc = .ok (.iushr, 1)) (hv : (a.toUInt32 >>> (b.toUInt32 &&& Int32.toUInt32 31)).toInt32 = v) (e : pc + 1 = pq) (h : xv_V X Y nL cells slots lk N M pq L (.int v :: st)) : xv_V X Y nL cells slots lk N M pc L (.int b :: .int a :: st) := by
  subst e
  exact fun H locs ls hP hD hS hl => lv_iushr hX.1 hX.2.1 d hv (h H locs ls hP hD hS hl)
theorem xv_lushr (hX : xv_ok X Y cc own nL rm) {a v : Int64} {b : Int32} (d : decode cc pc = .ok (.lushr, 1)) (hv : (a.toUInt64 >>> (b.toInt64.toUInt64 &&& Int64.toUInt64 63)).toInt64 = v) (e : pc + 1 = pq) (h : xv_V X Y nL cells slots lk N M pq L (.long v :: st)) : xv_V X Y nL cells slots lk N M pc L (.int b :: .long a :: st) := by
  subst e
  exact fun H locs ls hP hD hS hl => lv_lushr hX.1 hX.2.1 d hv (h H locs ls hP hD hS hl)
theorem xv_lshl (hX : xv_ok X Y cc own nL rm) {a v : Int64} {b : Int32} (d : decode cc pc = .ok (.lshl, 1)) (hv : a <<< (b.toInt64 &&& 63) = v) (e : pc + 1 = pq) (h : xv_V X Y nL cells slots lk N M pq L (.long v :: st)) : xv_V X Y nL cells slots lk N M pc L (.int b :: .long a :: st) := by
  subst e
  exact fun H locs ls hP hD hS hl => lv_lshl hX.1 hX.2.1 d hv (h H locs ls hP hD hS hl)
theorem xv_i2l (hX : xv_ok X Y cc own nL rm) {a : Int32} {v : Int64} (d : decode cc pc = .ok (.i2l, 1)) (hv : a.toInt64 = v) (e : pc + 1 = pq) (h : xv_V X Y nL cells slots lk N M pq L (.long v :: st)) : xv_V X Y nL cells slots lk N M pc L (.int a :: st) := by
  subst e
  exact fun H locs ls hP hD hS hl => lv_i2l hX.1 hX.2.1 d hv (h H locs ls hP hD hS hl)
theorem xv_l2i (hX : xv_ok X Y cc own nL rm) {a : Int64} {v : Int32} (d : decode cc pc = .ok (.l2i, 1)) (hv : a.toInt32 = v) (e : pc + 1 = pq) (h : xv_V X Y nL cells slots lk N M pq L (.int v :: st)) : xv_V X Y nL cells slots lk N M pc L (.long a :: st) := by
  subst e
  exact fun H locs ls hP hD hS hl => lv_l2i hX.1 hX.2.1 d hv (h H locs ls hP hD hS hl)
theorem xv_iconst (hX : xv_ok X Y cc own nL rm) {n : Int} {v : Int32} (d : decode cc pc = .ok (.iconst n, 1)) (hv : Int32.ofInt n = v) (e : pc + 1 = pq) (h : xv_V X Y nL cells slots lk N M pq L (.int v :: st)) : xv_V X Y nL cells slots lk N M pc L st := by
  subst e
  exact fun H locs ls hP hD hS hl => lv_iconst hX.1 hX.2.1 d hv (h H locs ls hP hD hS hl)
theorem xv_bipush (hX : xv_ok X Y cc own nL rm) {n : Int} {v : Int32} (d : decode cc pc = .ok (.bipush n, 2)) (hv : (Int8.ofInt n).toInt32 = v) (e : pc + 2 = pq) (h : xv_V X Y nL cells slots lk N M pq L (.int v :: st)) : xv_V X Y nL cells slots lk N M pc L st := by
  subst e
  exact fun H locs ls hP hD hS hl => lv_bipush hX.1 hX.2.1 d hv (h H locs ls hP hD hS hl)
theorem xv_sipush (hX : xv_ok X Y cc own nL rm) {n : Int} {v : Int32} (d : decode cc pc = .ok (.sipush n, 3)) (hv : (Int16.ofInt n).toInt32 = v) (e : pc + 3 = pq) (h : xv_V X Y nL cells slots lk N M pq L (.int v :: st)) : xv_V X Y nL cells slots lk N M pc L st := by
  subst e
  exact fun H locs ls hP hD hS hl => lv_sipush hX.1 hX.2.1 d hv (h H locs ls hP hD hS hl)
theorem xv_lconst (hX : xv_ok X Y cc own nL rm) {n : Fin 2} {v : Int64} (d : decode cc pc = .ok (.lconst n, 1)) (hv : Int64.ofNat (n : Nat) = v) (e : pc + 1 = pq) (h : xv_V X Y nL cells slots lk N M pq L (.long v :: st)) : xv_V X Y nL cells slots lk N M pc L st := by
  subst e
  exact fun H locs ls hP hD hS hl => lv_lconst hX.1 hX.2.1 d hv (h H locs ls hP hD hS hl)
theorem xv_ldc (hX : xv_ok X Y cc own nL rm) {idx : Nat} {v : Int32} (hw : Jvm.Cond.constant own idx v ∈ xw_W) (d : decode cc pc = .ok (.ldc idx, 2)) (e : pc + 2 = pq) (h : xv_V X Y nL cells slots lk N M pq L (.int v :: st)) : xv_V X Y nL cells slots lk N M pc L st := by
  subst e
  exact fun H locs ls hP hD hS hl => lv_ldc hX.1 hX.2.1 hX.2.2.2.1 (hX.2.2.2.2.1 _ hw) d (h H locs ls hP hD hS hl)
theorem xv_ldc2 (hX : xv_ok X Y cc own nL rm) {idx : Nat} {v : Int64} (hw : Jvm.Cond.constantLong own idx v ∈ xw_W) (d : decode cc pc = .ok (.ldc2_w idx, 3)) (e : pc + 3 = pq) (h : xv_V X Y nL cells slots lk N M pq L (.long v :: st)) : xv_V X Y nL cells slots lk N M pc L st := by
  subst e
  exact fun H locs ls hP hD hS hl => lv_ldc2 hX.1 hX.2.1 hX.2.2.2.1 (hX.2.2.2.2.1 _ hw) d (h H locs ls hP hD hS hl)
theorem xv_iload_n (hX : xv_ok X Y cc own nL rm) {k : Fin 4} {x : Int32} (i : Nat) (d : decode cc pc = .ok (.iload_n k, 1)) (hk : L[i]? = some ((k : Nat), .int x)) (e : pc + 1 = pq) (h : xv_V X Y nL cells slots lk N M pq L (.int x :: st)) : xv_V X Y nL cells slots lk N M pc L st := by
  subst e
  exact fun H locs ls hP hD hS hl => lv_iload_n hX.1 hX.2.1 d rfl (lv_at hl i hk) (h H locs ls hP hD hS hl)
theorem xv_iload (hX : xv_ok X Y cc own nL rm) {k : Nat} {x : Int32} (i : Nat) (d : decode cc pc = .ok (.iload k, 2)) (hk : L[i]? = some (k, .int x)) (e : pc + 2 = pq) (h : xv_V X Y nL cells slots lk N M pq L (.int x :: st)) : xv_V X Y nL cells slots lk N M pc L st := by
  subst e
  exact fun H locs ls hP hD hS hl => lv_iload hX.1 hX.2.1 d (lv_at hl i hk) (h H locs ls hP hD hS hl)
theorem xv_lload_n (hX : xv_ok X Y cc own nL rm) {k : Fin 4} {x : Int64} (i : Nat) (d : decode cc pc = .ok (.lload_n k, 1)) (hk : L[i]? = some ((k : Nat), .long x)) (e : pc + 1 = pq) (h : xv_V X Y nL cells slots lk N M pq L (.long x :: st)) : xv_V X Y nL cells slots lk N M pc L st := by
  subst e
  exact fun H locs ls hP hD hS hl => lv_lload_n hX.1 hX.2.1 d rfl (lv_at hl i hk) (h H locs ls hP hD hS hl)
theorem xv_lload (hX : xv_ok X Y cc own nL rm) {k : Nat} {x : Int64} (i : Nat) (d : decode cc pc = .ok (.lload k, 2)) (hk : L[i]? = some (k, .long x)) (e : pc + 2 = pq) (h : xv_V X Y nL cells slots lk N M pq L (.long x :: st)) : xv_V X Y nL cells slots lk N M pc L st := by
  subst e
  exact fun H locs ls hP hD hS hl => lv_lload hX.1 hX.2.1 d (lv_at hl i hk) (h H locs ls hP hD hS hl)
theorem xv_aload_n (hX : xv_ok X Y cc own nL rm) {k : Fin 4} {x : Nat} (i : Nat) (d : decode cc pc = .ok (.aload_n k, 1)) (hk : L[i]? = some ((k : Nat), .ref x)) (e : pc + 1 = pq) (h : xv_V X Y nL cells slots lk N M pq L (.ref x :: st)) : xv_V X Y nL cells slots lk N M pc L st := by
  subst e
  exact fun H locs ls hP hD hS hl => lv_aload_n hX.1 hX.2.1 d rfl (lv_at hl i hk) (h H locs ls hP hD hS hl)
theorem xv_aload (hX : xv_ok X Y cc own nL rm) {k : Nat} {x : Nat} (i : Nat) (d : decode cc pc = .ok (.aload k, 2)) (hk : L[i]? = some (k, .ref x)) (e : pc + 2 = pq) (h : xv_V X Y nL cells slots lk N M pq L (.ref x :: st)) : xv_V X Y nL cells slots lk N M pc L st := by
  subst e
  exact fun H locs ls hP hD hS hl => lv_aload hX.1 hX.2.1 d (lv_at hl i hk) (h H locs ls hP hD hS hl)
theorem xv_istore_n (hX : xv_ok X Y cc own nL rm) {k : Fin 4} {x : Int32} {L' : List (Nat × Value)} (ks : List Nat) (d : decode cc pc = .ok (.istore_n k, 1)) (hn : (k : Nat) < nL) (hL : lv_pick (((k : Nat), Value.int x) :: L.filter (fun q => !(q.1 == (k : Nat)) && !(q.1 + 1 == (k : Nat) && q.2.category == 2))) ks = L') (e : pc + 1 = pq) (h : xv_V X Y nL cells slots lk N M pq L' st) : xv_V X Y nL cells slots lk N M pc L (.int x :: st) := by
  subst e
  exact fun H locs ls hP hD hS hl => lv_istore_n hX.1 hX.2.1 d rfl hl hn rfl (fun ls' hl' => h H locs ls' hP hD hS (lv_sub hl' ks hL))
theorem xv_istore (hX : xv_ok X Y cc own nL rm) {k : Nat} {x : Int32} {L' : List (Nat × Value)} (ks : List Nat) (d : decode cc pc = .ok (.istore k, 2)) (hn : k < nL) (hL : lv_pick ((k, Value.int x) :: L.filter (fun q => !(q.1 == k) && !(q.1 + 1 == k && q.2.category == 2))) ks = L') (e : pc + 2 = pq) (h : xv_V X Y nL cells slots lk N M pq L' st) : xv_V X Y nL cells slots lk N M pc L (.int x :: st) := by
  subst e
  exact fun H locs ls hP hD hS hl => lv_istore hX.1 hX.2.1 d hl hn rfl (fun ls' hl' => h H locs ls' hP hD hS (lv_sub hl' ks hL))
theorem xv_lstore_n (hX : xv_ok X Y cc own nL rm) {k : Fin 4} {x : Int64} {L' : List (Nat × Value)} (ks : List Nat) (d : decode cc pc = .ok (.lstore_n k, 1)) (hn : (k : Nat) + 1 < nL) (hL : lv_pick (((k : Nat), Value.long x) :: L.filter (fun q => !(q.1 == (k : Nat)) && (!(q.1 == (k : Nat) + 1) && !(q.1 + 1 == (k : Nat) && q.2.category == 2)))) ks = L') (e : pc + 1 = pq) (h : xv_V X Y nL cells slots lk N M pq L' st) : xv_V X Y nL cells slots lk N M pc L (.long x :: st) := by
  subst e
  exact fun H locs ls hP hD hS hl => lv_lstore_n hX.1 hX.2.1 d rfl hl hn rfl (fun ls' hl' => h H locs ls' hP hD hS (lv_sub hl' ks hL))
theorem xv_lstore (hX : xv_ok X Y cc own nL rm) {k : Nat} {x : Int64} {L' : List (Nat × Value)} (ks : List Nat) (d : decode cc pc = .ok (.lstore k, 2)) (hn : k + 1 < nL) (hL : lv_pick ((k, Value.long x) :: L.filter (fun q => !(q.1 == k) && (!(q.1 == k + 1) && !(q.1 + 1 == k && q.2.category == 2)))) ks = L') (e : pc + 2 = pq) (h : xv_V X Y nL cells slots lk N M pq L' st) : xv_V X Y nL cells slots lk N M pc L (.long x :: st) := by
  subst e
  exact fun H locs ls hP hD hS hl => lv_lstore hX.1 hX.2.1 d hl hn rfl (fun ls' hl' => h H locs ls' hP hD hS (lv_sub hl' ks hL))
theorem xv_astore_n (hX : xv_ok X Y cc own nL rm) {k : Fin 4} {x : Nat} {L' : List (Nat × Value)} (ks : List Nat) (d : decode cc pc = .ok (.astore_n k, 1)) (hn : (k : Nat) < nL) (hL : lv_pick (((k : Nat), Value.ref x) :: L.filter (fun q => !(q.1 == (k : Nat)) && !(q.1 + 1 == (k : Nat) && q.2.category == 2))) ks = L') (e : pc + 1 = pq) (h : xv_V X Y nL cells slots lk N M pq L' st) : xv_V X Y nL cells slots lk N M pc L (.ref x :: st) := by
  subst e
  exact fun H locs ls hP hD hS hl => lv_astore_n hX.1 hX.2.1 d rfl hl hn rfl (fun ls' hl' => h H locs ls' hP hD hS (lv_sub hl' ks hL))
theorem xv_astore (hX : xv_ok X Y cc own nL rm) {k : Nat} {x : Nat} {L' : List (Nat × Value)} (ks : List Nat) (d : decode cc pc = .ok (.astore k, 2)) (hn : k < nL) (hL : lv_pick ((k, Value.ref x) :: L.filter (fun q => !(q.1 == k) && !(q.1 + 1 == k && q.2.category == 2))) ks = L') (e : pc + 2 = pq) (h : xv_V X Y nL cells slots lk N M pq L' st) : xv_V X Y nL cells slots lk N M pc L (.ref x :: st) := by
  subst e
  exact fun H locs ls hP hD hS hl => lv_astore hX.1 hX.2.1 d hl hn rfl (fun ls' hl' => h H locs ls' hP hD hS (lv_sub hl' ks hL))
theorem xv_iinc (hX : xv_ok X Y cc own nL rm) {k : Nat} {n : Int} {x v : Int32} {L' : List (Nat × Value)} (i : Nat) (ks : List Nat) (d : decode cc pc = .ok (.iinc k n, 3)) (hk : L[i]? = some (k, .int x)) (hv : x + Int32.ofInt n = v) (hn : k < nL) (hL : lv_pick ((k, Value.int v) :: L.filter (fun q => !(q.1 == k) && !(q.1 + 1 == k && q.2.category == 2))) ks = L') (e : pc + 3 = pq) (h : xv_V X Y nL cells slots lk N M pq L' st) : xv_V X Y nL cells slots lk N M pc L st := by
  subst e
  exact fun H locs ls hP hD hS hl => lv_iinc hX.1 hX.2.1 d hl hk hv hn rfl (fun ls' hl' => h H locs ls' hP hD hS (lv_sub hl' ks hL))
theorem xv_sub {L' : List (Nat × Value)} (ks : List Nat) (hL : lv_pick L ks = L') (h : xv_V X Y nL cells slots lk N M pc L' st) : xv_V X Y nL cells slots lk N M pc L st := fun H locs ls hP hD hS hl => h H locs ls hP hD hS (lv_sub hl ks hL)
theorem xv_dup (hX : xv_ok X Y cc own nL rm) {v : Value} (d : decode cc pc = .ok (.dup, 1)) (hc : v.category = 1) (e : pc + 1 = pq) (h : xv_V X Y nL cells slots lk N M pq L (v :: v :: st)) : xv_V X Y nL cells slots lk N M pc L (v :: st) := by
  subst e
  exact fun H locs ls hP hD hS hl => lv_dup hX.1 hX.2.1 d hc (h H locs ls hP hD hS hl)
theorem xv_goto (hX : xv_ok X Y cc own nL rm) {off : Int} (d : decode cc pc = .ok (.goto off, 3)) (e : (pc : Int) + off = (pq : Int)) (h : xv_V X Y nL cells slots lk N M pq L st) : xv_V X Y nL cells slots lk N M pc L st := fun H locs ls hP hD hS hl => lv_goto hX.1 hX.2.1 d e (h H locs ls hP hD hS hl)
theorem xv_icmp_eq (hX : xv_ok X Y cc own nL rm) {x y : Int32} {xi yi : Int} (ha : x.toInt = xi) (hb : y.toInt = yi) {off : Int} {tgt : Nat} (d : decode cc pc = .ok (.if_icmp .eq off, 3)) (et : (pc : Int) + off = (tgt : Int)) (e : pc + 3 = pq) (kt : xi = yi → xv_V X Y nL cells slots lk N M tgt L st) (kf : xi ≠ yi → xv_V X Y nL cells slots lk N M pq L st) : xv_V X Y nL cells slots lk N M pc L (.int y :: .int x :: st) := by
  subst e
  exact fun H locs ls hP hD hS hl => lv_icmp_eq hX.1 hX.2.1 d et (fun q => kt (by rw [← ha, ← hb, q]) H locs ls hP hD hS hl) (fun q => kf (fun z => q (Int32.toInt_inj.mp (by rw [ha, hb, z]))) H locs ls hP hD hS hl)
theorem xv_if_eq (hX : xv_ok X Y cc own nL rm) {x : Int32} {xi : Int} (ha : x.toInt = xi) {off : Int} {tgt : Nat} (d : decode cc pc = .ok (.ifCond .eq off, 3)) (et : (pc : Int) + off = (tgt : Int)) (e : pc + 3 = pq) (kt : xi = 0 → xv_V X Y nL cells slots lk N M tgt L st) (kf : xi ≠ 0 → xv_V X Y nL cells slots lk N M pq L st) : xv_V X Y nL cells slots lk N M pc L (.int x :: st) := by
  subst e
  have hb : (0 : Int32).toInt = 0 := rfl
  exact fun H locs ls hP hD hS hl => lv_if_eq hX.1 hX.2.1 d et (fun q => kt (by rw [← ha, ← hb, q]) H locs ls hP hD hS hl) (fun q => kf (fun z => q (Int32.toInt_inj.mp (by rw [ha, hb, z]))) H locs ls hP hD hS hl)
theorem xv_icmp_ne (hX : xv_ok X Y cc own nL rm) {x y : Int32} {xi yi : Int} (ha : x.toInt = xi) (hb : y.toInt = yi) {off : Int} {tgt : Nat} (d : decode cc pc = .ok (.if_icmp .ne off, 3)) (et : (pc : Int) + off = (tgt : Int)) (e : pc + 3 = pq) (kt : xi ≠ yi → xv_V X Y nL cells slots lk N M tgt L st) (kf : xi = yi → xv_V X Y nL cells slots lk N M pq L st) : xv_V X Y nL cells slots lk N M pc L (.int y :: .int x :: st) := by
  subst e
  exact fun H locs ls hP hD hS hl => lv_icmp_ne hX.1 hX.2.1 d et (fun q => kt (fun z => q (Int32.toInt_inj.mp (by rw [ha, hb, z]))) H locs ls hP hD hS hl) (fun q => kf (by rw [← ha, ← hb]; exact congrArg Int32.toInt q) H locs ls hP hD hS hl)
theorem xv_if_ne (hX : xv_ok X Y cc own nL rm) {x : Int32} {xi : Int} (ha : x.toInt = xi) {off : Int} {tgt : Nat} (d : decode cc pc = .ok (.ifCond .ne off, 3)) (et : (pc : Int) + off = (tgt : Int)) (e : pc + 3 = pq) (kt : xi ≠ 0 → xv_V X Y nL cells slots lk N M tgt L st) (kf : xi = 0 → xv_V X Y nL cells slots lk N M pq L st) : xv_V X Y nL cells slots lk N M pc L (.int x :: st) := by
  subst e
  have hb : (0 : Int32).toInt = 0 := rfl
  exact fun H locs ls hP hD hS hl => lv_if_ne hX.1 hX.2.1 d et (fun q => kt (fun z => q (Int32.toInt_inj.mp (by rw [ha, hb, z]))) H locs ls hP hD hS hl) (fun q => kf (by rw [← ha, ← hb]; exact congrArg Int32.toInt q) H locs ls hP hD hS hl)
theorem xv_icmp_lt (hX : xv_ok X Y cc own nL rm) {x y : Int32} {xi yi : Int} (ha : x.toInt = xi) (hb : y.toInt = yi) {off : Int} {tgt : Nat} (d : decode cc pc = .ok (.if_icmp .lt off, 3)) (et : (pc : Int) + off = (tgt : Int)) (e : pc + 3 = pq) (kt : xi < yi → xv_V X Y nL cells slots lk N M tgt L st) (kf : yi ≤ xi → xv_V X Y nL cells slots lk N M pq L st) : xv_V X Y nL cells slots lk N M pc L (.int y :: .int x :: st) := by
  subst e
  exact fun H locs ls hP hD hS hl => lv_icmp_lt hX.1 hX.2.1 d et (fun q => kt (by have q := Int32.lt_iff_toInt_lt.mp q; rw [ha, hb] at q; exact q) H locs ls hP hD hS hl) (fun q => kf (by have q := mt Int32.lt_iff_toInt_lt.mpr q; rw [ha, hb] at q; omega) H locs ls hP hD hS hl)
theorem xv_if_lt (hX : xv_ok X Y cc own nL rm) {x : Int32} {xi : Int} (ha : x.toInt = xi) {off : Int} {tgt : Nat} (d : decode cc pc = .ok (.ifCond .lt off, 3)) (et : (pc : Int) + off = (tgt : Int)) (e : pc + 3 = pq) (kt : xi < 0 → xv_V X Y nL cells slots lk N M tgt L st) (kf : 0 ≤ xi → xv_V X Y nL cells slots lk N M pq L st) : xv_V X Y nL cells slots lk N M pc L (.int x :: st) := by
  subst e
  have hb : (0 : Int32).toInt = 0 := rfl
  exact fun H locs ls hP hD hS hl => lv_if_lt hX.1 hX.2.1 d et (fun q => kt (by have q := Int32.lt_iff_toInt_lt.mp q; rw [ha, hb] at q; exact q) H locs ls hP hD hS hl) (fun q => kf (by have q := mt Int32.lt_iff_toInt_lt.mpr q; rw [ha, hb] at q; omega) H locs ls hP hD hS hl)
theorem xv_icmp_ge (hX : xv_ok X Y cc own nL rm) {x y : Int32} {xi yi : Int} (ha : x.toInt = xi) (hb : y.toInt = yi) {off : Int} {tgt : Nat} (d : decode cc pc = .ok (.if_icmp .ge off, 3)) (et : (pc : Int) + off = (tgt : Int)) (e : pc + 3 = pq) (kt : yi ≤ xi → xv_V X Y nL cells slots lk N M tgt L st) (kf : xi < yi → xv_V X Y nL cells slots lk N M pq L st) : xv_V X Y nL cells slots lk N M pc L (.int y :: .int x :: st) := by
  subst e
  exact fun H locs ls hP hD hS hl => lv_icmp_ge hX.1 hX.2.1 d et (fun q => kt (by have q := Int32.le_iff_toInt_le.mp q; rw [ha, hb] at q; exact q) H locs ls hP hD hS hl) (fun q => kf (by have q := mt Int32.le_iff_toInt_le.mpr q; rw [ha, hb] at q; omega) H locs ls hP hD hS hl)
theorem xv_if_ge (hX : xv_ok X Y cc own nL rm) {x : Int32} {xi : Int} (ha : x.toInt = xi) {off : Int} {tgt : Nat} (d : decode cc pc = .ok (.ifCond .ge off, 3)) (et : (pc : Int) + off = (tgt : Int)) (e : pc + 3 = pq) (kt : 0 ≤ xi → xv_V X Y nL cells slots lk N M tgt L st) (kf : xi < 0 → xv_V X Y nL cells slots lk N M pq L st) : xv_V X Y nL cells slots lk N M pc L (.int x :: st) := by
  subst e
  have hb : (0 : Int32).toInt = 0 := rfl
  exact fun H locs ls hP hD hS hl => lv_if_ge hX.1 hX.2.1 d et (fun q => kt (by have q := Int32.le_iff_toInt_le.mp q; rw [ha, hb] at q; exact q) H locs ls hP hD hS hl) (fun q => kf (by have q := mt Int32.le_iff_toInt_le.mpr q; rw [ha, hb] at q; omega) H locs ls hP hD hS hl)
theorem xv_icmp_gt (hX : xv_ok X Y cc own nL rm) {x y : Int32} {xi yi : Int} (ha : x.toInt = xi) (hb : y.toInt = yi) {off : Int} {tgt : Nat} (d : decode cc pc = .ok (.if_icmp .gt off, 3)) (et : (pc : Int) + off = (tgt : Int)) (e : pc + 3 = pq) (kt : yi < xi → xv_V X Y nL cells slots lk N M tgt L st) (kf : xi ≤ yi → xv_V X Y nL cells slots lk N M pq L st) : xv_V X Y nL cells slots lk N M pc L (.int y :: .int x :: st) := by
  subst e
  exact fun H locs ls hP hD hS hl => lv_icmp_gt hX.1 hX.2.1 d et (fun q => kt (by have q := Int32.lt_iff_toInt_lt.mp q; rw [ha, hb] at q; exact q) H locs ls hP hD hS hl) (fun q => kf (by have q := mt Int32.lt_iff_toInt_lt.mpr q; rw [ha, hb] at q; omega) H locs ls hP hD hS hl)
theorem xv_if_gt (hX : xv_ok X Y cc own nL rm) {x : Int32} {xi : Int} (ha : x.toInt = xi) {off : Int} {tgt : Nat} (d : decode cc pc = .ok (.ifCond .gt off, 3)) (et : (pc : Int) + off = (tgt : Int)) (e : pc + 3 = pq) (kt : 0 < xi → xv_V X Y nL cells slots lk N M tgt L st) (kf : xi ≤ 0 → xv_V X Y nL cells slots lk N M pq L st) : xv_V X Y nL cells slots lk N M pc L (.int x :: st) := by
  subst e
  have hb : (0 : Int32).toInt = 0 := rfl
  exact fun H locs ls hP hD hS hl => lv_if_gt hX.1 hX.2.1 d et (fun q => kt (by have q := Int32.lt_iff_toInt_lt.mp q; rw [ha, hb] at q; exact q) H locs ls hP hD hS hl) (fun q => kf (by have q := mt Int32.lt_iff_toInt_lt.mpr q; rw [ha, hb] at q; omega) H locs ls hP hD hS hl)
theorem xv_icmp_le (hX : xv_ok X Y cc own nL rm) {x y : Int32} {xi yi : Int} (ha : x.toInt = xi) (hb : y.toInt = yi) {off : Int} {tgt : Nat} (d : decode cc pc = .ok (.if_icmp .le off, 3)) (et : (pc : Int) + off = (tgt : Int)) (e : pc + 3 = pq) (kt : xi ≤ yi → xv_V X Y nL cells slots lk N M tgt L st) (kf : yi < xi → xv_V X Y nL cells slots lk N M pq L st) : xv_V X Y nL cells slots lk N M pc L (.int y :: .int x :: st) := by
  subst e
  exact fun H locs ls hP hD hS hl => lv_icmp_le hX.1 hX.2.1 d et (fun q => kt (by have q := Int32.le_iff_toInt_le.mp q; rw [ha, hb] at q; exact q) H locs ls hP hD hS hl) (fun q => kf (by have q := mt Int32.le_iff_toInt_le.mpr q; rw [ha, hb] at q; omega) H locs ls hP hD hS hl)
theorem xv_if_le (hX : xv_ok X Y cc own nL rm) {x : Int32} {xi : Int} (ha : x.toInt = xi) {off : Int} {tgt : Nat} (d : decode cc pc = .ok (.ifCond .le off, 3)) (et : (pc : Int) + off = (tgt : Int)) (e : pc + 3 = pq) (kt : xi ≤ 0 → xv_V X Y nL cells slots lk N M tgt L st) (kf : 0 < xi → xv_V X Y nL cells slots lk N M pq L st) : xv_V X Y nL cells slots lk N M pc L (.int x :: st) := by
  subst e
  have hb : (0 : Int32).toInt = 0 := rfl
  exact fun H locs ls hP hD hS hl => lv_if_le hX.1 hX.2.1 d et (fun q => kt (by have q := Int32.le_iff_toInt_le.mp q; rw [ha, hb] at q; exact q) H locs ls hP hD hS hl) (fun q => kf (by have q := mt Int32.le_iff_toInt_le.mpr q; rw [ha, hb] at q; omega) H locs ls hP hD hS hl)
theorem xv_lcmp (hX : xv_ok X Y cc own nL rm) {a b : Int64} (d : decode cc pc = .ok (.lcmp, 1)) (e : pc + 1 = pq) (h : xv_V X Y nL cells slots lk N M pq L (.int (lg_cmp a b) :: st)) : xv_V X Y nL cells slots lk N M pc L (.long b :: .long a :: st) := by
  subst e
  exact fun H locs ls hP hD hS hl => W.lcmp hX.1 hX.2.1 d (h H locs ls hP hD hS hl)
theorem xv_getv (hX : xv_ok X Y cc own nL rm) {q ci n k idx : Nat} {fin : Bool} {ty : FieldType} (hf : xf_L own idx ci n k fin ty) (hk : xw_K q = (0, ci, n)) (hq : q < N) {v : Value} (hv : xw_slot Y.2.2.2 (xw_rk ci k) (lk q k) (M q k) = v) (d : decode cc pc = .ok (.getfield idx, 3)) (e : pc + 3 = pq) (h : xv_V X Y nL cells slots lk N M pq L (v :: st)) : xv_V X Y nL cells slots lk N M pc L (.ref (Y.2.2.2 q) :: st) := by
  subst e
  obtain ⟨C, T, tf, hc, hkn, hw, hl, -⟩ := hf
  intro H locs ls hP hD hS hls
  have he : (xw_ws Y lk M N)[q]? = some (Y.2.2.2 q, .inr (ci, xw_fs Y.2.2.2 (xw_rk ci) (lk q) (M q) n)) := by
    rw [xw_at hq]; unfold xw_cell; rw [hk]; rfl
  rcases hl with hl | ⟨host, hl⟩
  · exact va_get hX.1 hX.2.1 hX.2.2.2.2.1 hw hX.2.2.2.1 hX.2.2.2.2.2.1 hP q he hc k hkn (hX.2.2.2.2.1 _ hl) (fun _ h9 => h9) (by rw [xw_fs_get hkn, hv]) d (h H locs ls hP hD hS hls)
  · exact va_getN hX.1 hX.2.1 hX.2.2.2.2.1 hw hX.2.2.2.1 hX.2.2.2.2.2.1 hP q he hc k hkn (va_Nw.use rfl (hX.2.2.2.2.2.2.2.2 _ hl)) (fun _ h9 => h9) (by rw [xw_fs_get hkn, hv]) d (h H locs ls hP hD hS hls)
theorem xv_geti (hX : xv_ok X Y cc own nL rm) {q ci n k idx v : Nat} {fin : Bool} {ty : FieldType} (hf : xf_L own idx ci n k fin ty) (hr : xw_rk ci k = false) (hk : xw_K q = (0, ci, n)) (hq : q < N) (hv : M q k = v) (d : decode cc pc = .ok (.getfield idx, 3)) (e : pc + 3 = pq) (h : xv_V X Y nL cells slots lk N M pq L (.int (nI v) :: st)) : xv_V X Y nL cells slots lk N M pc L (.ref (Y.2.2.2 q) :: st) :=
  xv_getv hX hf hk hq (by rw [hr, hv]; rfl) d e h
theorem xv_getr (hX : xv_ok X Y cc own nL rm) {q ci n k idx v : Nat} {fin : Bool} {ty : FieldType} (hf : xf_L own idx ci n k fin ty) (hr : xw_rk ci k = true) (hk : xw_K q = (0, ci, n)) (hq : q < N) (hv : lk q k = some v) (d : decode cc pc = .ok (.getfield idx, 3)) (e : pc + 3 = pq) (h : xv_V X Y nL cells slots lk N M pq L (.ref (Y.2.2.2 v) :: st)) : xv_V X Y nL cells slots lk N M pc L (.ref (Y.2.2.2 q) :: st) :=
  xv_getv hX hf hk hq (by rw [hr, hv]; rfl) d e h
theorem xv_putv (hX : xv_ok X Y cc own nL rm) {q ci n k idx : Nat} {ty : FieldType} {lk' : xl_L} {M' : xm_M} (hf : xf_L own idx ci n k false ty) (hk : xw_K q = (0, ci, n)) (hq : q < N) {v : Value} (hn : narrow ty v = v) (hfit : fits ty v = true) (h0 : (xw_fs Y.2.2.2 (xw_rk ci) (lk q) (M q) n).set k v = xw_fs Y.2.2.2 (xw_rk ci) (lk' q) (M' q) n) (ho : ∀ z, z ≠ q → lk' z = lk z ∧ M' z = M z) (d : decode cc pc = .ok (.putfield idx, 3)) (e : pc + 3 = pq) (h : xv_V X Y nL cells slots lk' N M' pq L st) : xv_V X Y nL cells slots lk N M pc L (v :: .ref (Y.2.2.2 q) :: st) := by
  subst e
  obtain ⟨C, T, tf, hc, hkn, hw, hl, hfin, hd, hty, hnm⟩ := hf
  intro H locs ls hP hD hS hls
  have he : (xw_ws Y lk M N)[q]? = some (Y.2.2.2 q, .inr (ci, xw_fs Y.2.2.2 (xw_rk ci) (lk q) (M q) n)) := by
    rw [xw_at hq]; unfold xw_cell; rw [hk]; rfl
  have hset : (xw_ws Y lk M N).set q (Y.2.2.2 q, .inr (ci, (xw_fs Y.2.2.2 (xw_rk ci) (lk q) (M q) n).set k v)) = xw_ws Y lk' M' N :=
    xw_set (by unfold xw_cell; rw [hk, h0]; rfl) ho
  rcases hl with hl | ⟨host, hl⟩
  · refine va_put hX.1 hX.2.1 hX.2.2.2.2.1 hw tf hty hnm hX.2.2.2.1 hX.2.2.2.2.2.1 hP hD hS q he hc k hkn (hX.2.2.2.2.1 _ hl) (fun _ h9 => h9) hfin hd hn hfit (by rw [xw_fs_len]; exact hkn) d (fun H1 locs1 hP1 hD1 hS1 => ?_)
    rw [hset] at hP1 hD1
    exact h H1 locs1 ls hP1 hD1 hS1 hls
  · refine va_putN hX.1 hX.2.1 hX.2.2.2.2.1 hw tf hty hnm hX.2.2.2.1 hX.2.2.2.2.2.1 hP hD hS q he hc k hkn (va_Nw.use rfl (hX.2.2.2.2.2.2.2.2 _ hl)) (fun _ h9 => h9) hfin hd hn hfit (by rw [xw_fs_len]; exact hkn) d (fun H1 locs1 hP1 hD1 hS1 => ?_)
    rw [hset] at hP1 hD1
    exact h H1 locs1 ls hP1 hD1 hS1 hls
theorem xw_seti {ad : Nat → Nat} {rk : Nat → Bool} {r : Nat → Option Nat} {M : xm_M} {q n k v : Nat} (hr : rk k = false) : (xw_fs ad rk r (M q) n).set k (.int (nI v)) = xw_fs ad rk r (xm_set M q k v q) n :=
  xw_fs_set (by rw [hr, xm_eq]; rfl) (fun j hj => ⟨rfl, xm_nk hj⟩)
theorem xv_puti (hX : xv_ok X Y cc own nL rm) {q ci n k idx v : Nat} (hf : xf_L own idx ci n k false .int) (hr : xw_rk ci k = false) (hk : xw_K q = (0, ci, n)) (hq : q < N) (d : decode cc pc = .ok (.putfield idx, 3)) (e : pc + 3 = pq) (h : xv_V X Y nL cells slots lk N (xm_set M q k v) pq L st) : xv_V X Y nL cells slots lk N M pc L (.int (nI v) :: .ref (Y.2.2.2 q) :: st) :=
  xv_putv hX hf hk hq rfl rfl (xw_seti hr) (fun z hz => ⟨rfl, xm_oth hz⟩) d e h
theorem xv_putz (hX : xv_ok X Y cc own nL rm) {q ci n k idx v : Nat} (hf : xf_L own idx ci n k false .boolean) (hr : xw_rk ci k = false) (hk : xw_K q = (0, ci, n)) (hq : q < N) (hv : v < 2) (d : decode cc pc = .ok (.putfield idx, 3)) (e : pc + 3 = pq) (h : xv_V X Y nL cells slots lk N (xm_set M q k v) pq L st) : xv_V X Y nL cells slots lk N M pc L (.int (nI v) :: .ref (Y.2.2.2 q) :: st) :=
  xv_putv hX hf hk hq (by rcases (show v = 0 ∨ v = 1 by omega) with rfl | rfl <;> decide) (by rcases (show v = 0 ∨ v = 1 by omega) with rfl | rfl <;> decide) (xw_seti hr) (fun z hz => ⟨rfl, xm_oth hz⟩) d e h
theorem xv_iald (hX : xv_ok X Y cc own nL rm) {q n i v : Nat} (hk : xw_K q = (1, 0, n)) (hq : q < N) (hi : i < n) (hn : n < 2 ^ 31) (hv : M q i = v) (d : decode cc pc = .ok (.iaload, 1)) (e : pc + 1 = pq) (h : xv_V X Y nL cells slots lk N M pq L (.int (nI v) :: st)) : xv_V X Y nL cells slots lk N M pc L (.int (nI i) :: .ref (Y.2.2.2 q) :: st) := by
  subst e
  subst hv
  intro H locs ls hP hD hS hls
  refine va_iald hX.1 hX.2.1 hX.2.2.2.2.2.1 hP q 0 (cA := Y.2.1 0) (n := n) (f := fun j => nI (M q j)) (by rw [xw_at hq]; unfold xw_cell; rw [hk]; rfl) rfl (vp_in_nI hi hn) d ?_
  rw [nI_clamp (by omega)]
  exact h H locs ls hP hD hS hls
theorem xv_lald (hX : xv_ok X Y cc own nL rm) {q n i v : Nat} (hk : xw_K q = (2, 1, n)) (hq : q < N) (hi : i < n) (hn : n < 2 ^ 31) (hv : M q i = v) (d : decode cc pc = .ok (.laload, 1)) (e : pc + 1 = pq) (h : xv_V X Y nL cells slots lk N M pq L (.long (lN v) :: st)) : xv_V X Y nL cells slots lk N M pc L (.int (nI i) :: .ref (Y.2.2.2 q) :: st) := by
  subst e
  subst hv
  intro H locs ls hP hD hS hls
  refine va_lald hX.1 hX.2.1 hX.2.2.2.2.2.1 hP q 1 (cA := Y.2.1 1) (n := n) (f := fun j => lN (M q j)) (by rw [xw_at hq]; unfold xw_cell; rw [hk]; rfl) rfl (vp_in_nI hi hn) d ?_
  rw [nI_clamp (by omega)]
  exact h H locs ls hP hD hS hls
theorem xv_aald (hX : xv_ok X Y cc own nL rm) {q t n i v : Nat} {C : String} (hk : xw_K q = (3, t, n)) (ht : (xw_tys Y)[t]? = some (Y.2.1 t, .object C)) (hq : q < N) (hi : i < n) (hn : n < 2 ^ 31) (hv : lk q i = some v) (d : decode cc pc = .ok (.aaload, 1)) (e : pc + 1 = pq) (h : xv_V X Y nL cells slots lk N M pq L (.ref (Y.2.2.2 v) :: st)) : xv_V X Y nL cells slots lk N M pc L (.int (nI i) :: .ref (Y.2.2.2 q) :: st) := by
  subst e
  intro H locs ls hP hD hS hls
  refine va_aldq hX.1 hX.2.1 hX.2.2.2.2.2.1 hP q t (cA := Y.2.1 t) (n := n) (f := fun j => (lk q j).map Y.2.2.2) (by rw [xw_at hq]; unfold xw_cell; rw [hk]; rfl) ht (vp_in_nI hi hn) d ?_
  rw [nI_clamp (by omega), hv]
  exact h H locs ls hP hD hS hls
theorem xv_iast (hX : xv_ok X Y cc own nL rm) {q n i v : Nat} (hk : xw_K q = (1, 0, n)) (hq : q < N) (hi : i < n) (hn : n < 2 ^ 31) (d : decode cc pc = .ok (.iastore, 1)) (e : pc + 1 = pq) (h : xv_V X Y nL cells slots lk N (xm_set M q i v) pq L st) : xv_V X Y nL cells slots lk N M pc L (.int (nI v) :: .int (nI i) :: .ref (Y.2.2.2 q) :: st) := by
  subst e
  intro H locs ls hP hD hS hls
  refine va_iast hX.1 hX.2.1 hX.2.2.2.2.2.1 hP hD hS q 0 (cA := Y.2.1 0) (n := n) (f := fun j => nI (M q j)) (by rw [xw_at hq]; unfold xw_cell; rw [hk]; rfl) rfl (vp_in_nI hi hn) d (fun H1 locs1 hP1 hD1 hS1 => ?_)
  have hset : (xw_ws Y lk M N).set q (Y.2.2.2 q, .inl (Y.2.1 0, n, .inl (upd (fun j => nI (M q j)) (nI i).toNatClampNeg (nI v)))) = xw_ws Y lk (xm_set M q i v) N := by
    refine xw_set ?_ (fun z hz => ⟨rfl, xm_oth hz⟩)
    unfold xw_cell
    rw [hk, xm_row, nI_clamp (by omega)]
    have hfn : (fun j => nI (if j = i then v else M q j)) = upd (fun j => nI (M q j)) i (nI v) := by
      funext j
      unfold upd
      split <;> rfl
    show Sum.inl (Y.2.1 0, n, Sum.inl (fun j => nI (if j = i then v else M q j))) = _
    rw [hfn]
  rw [hset] at hP1 hD1
  exact h H1 locs1 ls hP1 hD1 hS1 hls
theorem xv_last (hX : xv_ok X Y cc own nL rm) {q n i v : Nat} (hk : xw_K q = (2, 1, n)) (hq : q < N) (hi : i < n) (hn : n < 2 ^ 31) (d : decode cc pc = .ok (.lastore, 1)) (e : pc + 1 = pq) (h : xv_V X Y nL cells slots lk N (xm_set M q i v) pq L st) : xv_V X Y nL cells slots lk N M pc L (.long (lN v) :: .int (nI i) :: .ref (Y.2.2.2 q) :: st) := by
  subst e
  intro H locs ls hP hD hS hls
  refine va_last hX.1 hX.2.1 hX.2.2.2.2.2.1 hP hD hS q 1 (cA := Y.2.1 1) (n := n) (f := fun j => lN (M q j)) (by rw [xw_at hq]; unfold xw_cell; rw [hk]; rfl) rfl (vp_in_nI hi hn) d (fun H1 locs1 hP1 hD1 hS1 => ?_)
  have hset : (xw_ws Y lk M N).set q (Y.2.2.2 q, .inl (Y.2.1 1, n, .inr (.inl (vp_updL (fun j => lN (M q j)) (nI i).toNatClampNeg (lN v))))) = xw_ws Y lk (xm_set M q i v) N := by
    refine xw_set ?_ (fun z hz => ⟨rfl, xm_oth hz⟩)
    unfold xw_cell
    rw [hk, xm_row, nI_clamp (by omega)]
    have hfn : (fun j => lN (if j = i then v else M q j)) = vp_updL (fun j => lN (M q j)) i (lN v) := by
      funext j
      unfold vp_updL
      split <;> rfl
    show Sum.inl (Y.2.1 1, n, Sum.inr (Sum.inl (fun j => lN (if j = i then v else M q j)))) = _
    rw [hfn]
  rw [hset] at hP1 hD1
  exact h H1 locs1 ls hP1 hD1 hS1 hls
theorem xv_alen (hX : xv_ok X Y cc own nL rm) {q t n : Nat} {tg : Nat} (hk : xw_K q = (tg + 1, t, n)) (ht : ∃ ty, (xw_tys Y)[t]? = some (Y.2.1 t, ty)) (hq : q < N) (d : decode cc pc = .ok (.arraylength, 1)) (e : pc + 1 = pq) (h : xv_V X Y nL cells slots lk N M pq L (.int (nI n) :: st)) : xv_V X Y nL cells slots lk N M pc L (.ref (Y.2.2.2 q) :: st) := by
  subst e
  obtain ⟨ty, ht⟩ := ht
  intro H locs ls hP hD hS hls
  have he : ∃ x : vp_A, x.1 = n ∧ (xw_ws Y lk M N)[q]? = some (Y.2.2.2 q, .inl (Y.2.1 t, x)) := by
    rw [xw_at hq]; unfold xw_cell; rw [hk]
    rcases tg with _ | _ | tg
    · exact ⟨_, rfl, rfl⟩
    · exact ⟨_, rfl, rfl⟩
    · exact ⟨(n, .inr (.inr (.inr (.inr (fun j => (lk q j).map Y.2.2.2))))), rfl, rfl⟩
  obtain ⟨x, hx, he⟩ := he
  exact va_alen hX.1 hX.2.1 hX.2.2.2.2.2.1 hP q t he ht (by rw [hx]; rfl) d (h H locs ls hP hD hS hls)
end XV
end
section
/-! contracts over the memory: no cell is made -/
abbrev xc_rm (d : Nat) : Room := { frames := d, cells := 0, slots := 0, locals := 64 * d }
abbrev xc_ws (q : xc_q) : List Cond := Cond.code q.1 q.2.1 q.2.2.1 q.2.2.2 :: xw_W
/-- a method with an int (or boolean) answer -/
def xc_i (l : Launch) (q : xc_q) (d : Nat) (Y : xw_Y) (av : List Value) (M : xm_M) (post : Int32 → xm_M → Prop) : Prop := Met l q.1 (xc_ws q) (xc_rm d) (va_Pc av (xw_P Y M)) (va_Qi post (xw_B Y xw_lk xw_N) Y.2.2.1) 0 0 Y.2.2.1
/-- a method without an answer -/
def xc_v (l : Launch) (q : xc_q) (d : Nat) (Y : xw_Y) (av : List Value) (M : xm_M) (post : xm_M → Prop) : Prop := Met l q.1 (xc_ws q) (xc_rm d) (va_Pc av (xw_P Y M)) (va_Qv post (xw_B Y xw_lk xw_N) Y.2.2.1) 0 0 Y.2.2.1
/-- a method that answers a place -/
def xc_r (l : Launch) (q : xc_q) (d : Nat) (Y : xw_Y) (av : List Value) (M : xm_M) (post : xm_M × Nat → Prop) : Prop := Met l q.1 (xc_ws q) (xc_rm d) (va_Pc av (xw_P Y M)) (va_Qr post (fun u a t => a = Y.2.2.2 u.2 ∧ xw_B Y xw_lk xw_N u.1 t) Y.2.2.1) 0 0 Y.2.2.1
def xr_i (X : xv_X) (Y : xw_Y) (post : Int32 → xm_M → Prop) (ty : FieldType) : Prop := xv_Q X = MQ (xv_below X) (va_Qi post (xw_B Y xw_lk xw_N) Y.2.2.1) (xv_args X) (xv_s X) 0 0 Y.2.2.1 ∧ (xv_meth X).sig.returnType = some ty
def xr_v (X : xv_X) (Y : xw_Y) (post : xm_M → Prop) : Prop := xv_Q X = MQ (xv_below X) (va_Qv post (xw_B Y xw_lk xw_N) Y.2.2.1) (xv_args X) (xv_s X) 0 0 Y.2.2.1 ∧ (xv_meth X).sig.returnType = none
def xr_r (X : xv_X) (Y : xw_Y) (post : xm_M × Nat → Prop) (C : String) : Prop := xv_Q X = MQ (xv_below X) (va_Qr post (fun u a t => a = Y.2.2.2 u.2 ∧ xw_B Y xw_lk xw_N u.1 t) Y.2.2.1) (xv_args X) (xv_s X) 0 0 Y.2.2.1 ∧ (xv_meth X).sig.returnType = some (.object C)
theorem xc_i.mk {l : Launch} {q : xc_q} {d : Nat} {Y : xw_Y} {av : List Value} {M : xm_M} {post : Int32 → xm_M → Prop} (ty : FieldType) (hty : q.2.2.2 = some ty) (hq : plainName q.1.cls = true) (hL : (lg_sl av).length ≤ q.2.2.1)
    (body : ∀ X : xv_X, xv_l X = l → xv_ok X Y q.2.1 q.1.cls q.2.2.1 (xc_rm d) → xr_i X Y post ty → xv_V X Y q.2.2.1 0 0 xw_lk xw_N M 0 (lv_args 0 av) []) : xc_i l q d Y av M post := by
  refine Met.ofW (cc := q.2.1) (maxL := q.2.2.1) (ret := q.2.2.2) hq rfl ?_
  intro p e s m args below meth c s₁ B hml hv
  obtain ⟨rfl, ⟨hP, hK, hD⟩, hN⟩ := hv
  have hts := atoms_spec (ws := xc_ws q) B.pre
  have hr := B.returns
  rw [hty] at hr
  have hl := lv_entry av (n := q.2.2.1) hL
  rw [lg_entry_eq]
  exact body (p, l, e, (headSpec (xc_ws q) (xc_rm d)).room, s, m, _, below, meth, c, _) rfl ⟨B.exec, B.bytes, hml, findClass_of_methodNamed B.named, fun w hw => hts w (List.mem_cons_of_mem _ hw), hK, B.notSynchronized, rfl, hN⟩ ⟨rfl, hr⟩ s.heap [] _ hP hD va_S.rf hl
theorem xc_v.mk {l : Launch} {q : xc_q} {d : Nat} {Y : xw_Y} {av : List Value} {M : xm_M} {post : xm_M → Prop} (hty : q.2.2.2 = none) (hq : plainName q.1.cls = true) (hL : (lg_sl av).length ≤ q.2.2.1)
    (body : ∀ X : xv_X, xv_l X = l → xv_ok X Y q.2.1 q.1.cls q.2.2.1 (xc_rm d) → xr_v X Y post → xv_V X Y q.2.2.1 0 0 xw_lk xw_N M 0 (lv_args 0 av) []) : xc_v l q d Y av M post := by
  refine Met.ofW (cc := q.2.1) (maxL := q.2.2.1) (ret := q.2.2.2) hq rfl ?_
  intro p e s m args below meth c s₁ B hml hv
  obtain ⟨rfl, ⟨hP, hK, hD⟩, hN⟩ := hv
  have hts := atoms_spec (ws := xc_ws q) B.pre
  have hr := B.returns
  rw [hty] at hr
  have hl := lv_entry av (n := q.2.2.1) hL
  rw [lg_entry_eq]
  exact body (p, l, e, (headSpec (xc_ws q) (xc_rm d)).room, s, m, _, below, meth, c, _) rfl ⟨B.exec, B.bytes, hml, findClass_of_methodNamed B.named, fun w hw => hts w (List.mem_cons_of_mem _ hw), hK, B.notSynchronized, rfl, hN⟩ ⟨rfl, hr⟩ s.heap [] _ hP hD va_S.rf hl
theorem xc_r.mk {l : Launch} {q : xc_q} {d : Nat} {Y : xw_Y} {av : List Value} {M : xm_M} {post : xm_M × Nat → Prop} (C : String) (hty : q.2.2.2 = some (.object C)) (hq : plainName q.1.cls = true) (hL : (lg_sl av).length ≤ q.2.2.1)
    (body : ∀ X : xv_X, xv_l X = l → xv_ok X Y q.2.1 q.1.cls q.2.2.1 (xc_rm d) → xr_r X Y post C → xv_V X Y q.2.2.1 0 0 xw_lk xw_N M 0 (lv_args 0 av) []) : xc_r l q d Y av M post := by
  refine Met.ofW (cc := q.2.1) (maxL := q.2.2.1) (ret := q.2.2.2) hq rfl ?_
  intro p e s m args below meth c s₁ B hml hv
  obtain ⟨rfl, ⟨hP, hK, hD⟩, hN⟩ := hv
  have hts := atoms_spec (ws := xc_ws q) B.pre
  have hr := B.returns
  rw [hty] at hr
  have hl := lv_entry av (n := q.2.2.1) hL
  rw [lg_entry_eq]
  exact body (p, l, e, (headSpec (xc_ws q) (xc_rm d)).room, s, m, _, below, meth, c, _) rfl ⟨B.exec, B.bytes, hml, findClass_of_methodNamed B.named, fun w hw => hts w (List.mem_cons_of_mem _ hw), hK, B.notSynchronized, rfl, hN⟩ ⟨rfl, hr⟩ s.heap [] _ hP hD va_S.rf hl
section XR
variable {X : xv_X} {Y : xw_Y} {cc : ByteArray} {own : String} {nL : Nat} {rm : Room} {M : xm_M} {pc : Nat} {L : List (Nat × Value)}
theorem xv_reti {post : Int32 → xm_M → Prop} {ty : FieldType} {v : Int32} (hX : xv_ok X Y cc own nL rm) (hR : xr_i X Y post ty) (hn : narrow ty (.int v) = .int v) (d : decode cc pc = .ok (.ireturn, 1)) (hp : post v M) : xv_V X Y nL 0 0 xw_lk xw_N M pc L [.int v] := by
  intro H locs ls hP hD hS hl
  rw [hR.1]
  exact W.zret hX.1 hX.2.1 hR.2 hn (fun t ht hW => ⟨⟨v, M, rfl, hp, by rw [ht]; exact hP, va_K.moved hW.alike hX.2.2.2.2.2.1, hD⟩, hS.F ht⟩) hS.2.2 d hX.2.2.2.2.2.2.1
theorem xv_retv {post : xm_M → Prop} (hX : xv_ok X Y cc own nL rm) (hR : xr_v X Y post) (d : decode cc pc = .ok (.return_, 1)) (hp : post M) : xv_V X Y nL 0 0 xw_lk xw_N M pc L [] := by
  intro H locs ls hP hD hS hl
  rw [hR.1]
  exact W.vret hX.1 hX.2.1 hR.2 (fun t ht hW => ⟨⟨M, rfl, hp, by rw [ht]; exact hP, va_K.moved hW.alike hX.2.2.2.2.2.1, hD⟩, hS.F ht⟩) hS.2.2 d hX.2.2.2.2.2.2.1
theorem xv_retr {post : xm_M × Nat → Prop} {C : String} {q : Nat} (hX : xv_ok X Y cc own nL rm) (hR : xr_r X Y post C) (d : decode cc pc = .ok (.areturn, 1)) (hp : post (M, q)) : xv_V X Y nL 0 0 xw_lk xw_N M pc L [.ref (Y.2.2.2 q)] := by
  intro H locs ls hP hD hS hl
  rw [hR.1]
  exact W.aret hX.1 hX.2.1 hR.2 (Or.inl ⟨_, rfl⟩) (Or.inr ⟨_, rfl⟩) (fun t ht hW => ⟨⟨(M, q), _, rfl, hp, rfl, by rw [ht]; exact hP, va_K.moved hW.alike hX.2.2.2.2.2.1, hD⟩, hS.F ht⟩) hS.2.2 d hX.2.2.2.2.2.2.1
end XR
theorem xc_good (q : xc_q) (h : Cond.code q.1 q.2.1 q.2.2.1 q.2.2.2 ∈ xw_W) : GoodIn xw_W (xc_ws q) := by
  intro w hw
  rcases List.mem_cons.mp hw with rfl | hw
  · exact ⟨h, Or.inl rfl⟩
  · exact xw_good w hw
theorem xw_blind (Y : xw_Y) (av : List Value) (M : xm_M) : FrameBlind (va_Pc av (xw_P Y M)) := by
  intro a U g mk h
  obtain ⟨q0, ⟨qP, qK, qD⟩, qN⟩ := h
  exact ⟨q0, ⟨qP, va_K.moved (u := U) (U := U.calling g mk a) (Vm.Alike.refl U.vm) qK, qD⟩, xw_nest_same (u := U) (U := U.calling g mk a) rfl qN⟩
section XK
variable {X : xv_X} {Y : xw_Y} {cc : ByteArray} {own : String} {nL cells slots : Nat} {rm : Room} {M : xm_M} {pc pq : Nat} {L : List (Nat × Value)}
theorem xv_runV (hX : xv_ok X Y cc own nL rm) {q : xc_q} {dz : Nat} {av As rest st0 : List Value} {Qc : Array Value → State → Outcome → State → Prop} {free : Addr → Prop} (hM : Met (xv_l X) q.1 (xc_ws q) (xc_rm dz) (va_Pc av (xw_P Y M)) Qc 0 0 free) {idx b ci n : Nat} {T : u_T} (hl : xc_L own idx q As.length) (hv : xc_LV q) (hb : xw_K b = (0, ci, n)) (hbN : b < xw_N) (hc : xw_Cl[ci]? = some (q.1.cls, T, n)) (hav : av = .ref (Y.2.2.2 b) :: As) (hst : st0 = As.reverse ++ .ref (Y.2.2.2 b) :: rest)
    (hz : q.2.2.1 ≤ 45) (hR : dz + 1 ≤ rm.frames ∧ 64 * dz + 64 ≤ rm.locals) (hf : cells ≤ rm.cells ∧ slots ≤ rm.slots) (hW : (rest.map fun v => v.category).sum ≤ 8) (d : decode cc pc = .ok (.invokevirtual idx, 3)) {H : Heap} {locs : List Loc} {ls : Array Slot} (hP : va_P Y.1 xw_Cl (xw_ws Y xw_lk M xw_N) H) (hD : va_D Y.2.2.1 (xw_ws Y xw_lk M xw_N)) (hs : lv_has ls nL L) :
    va_Run (xv_p X) (xv_l X) (xv_e X) (xv_R X) (xv_s X) (xv_m X) (xv_args X) (xv_below X) (xv_meth X) (xv_c X) H locs cells slots 0 0 (F0 (xv_m X) pc ls st0) rest (Qc (Value.ref (Y.2.2.2 b) :: As).toArray) free := by
  obtain ⟨hx, hcc, hml, hown, hts, hK, hlk, hrm, hN⟩ := hX
  obtain ⟨hli, hini, hcode, hmh, hpar⟩ := hl
  have hG := xc_good q hcode
  have hR' : (xc_rm dz).frames + 1 ≤ (xv_R X).frames ∧ 8 + (q.2.2.1 + 11) + (xc_rm dz).locals ≤ (xv_R X).locals := by
    rw [hrm]
    refine ⟨hR.1, ?_⟩
    have := hR.2
    show 8 + (q.2.2.1 + 11) + 64 * dz ≤ rm.locals
    omega
  have hcells : cells + 0 ≤ (xv_R X).cells ∧ slots + 0 ≤ (xv_R X).slots := by
    rw [hrm]
    exact hf
  have he : (xw_ws Y xw_lk M xw_N)[b]? = some (Y.2.2.2 b, .inr (ci, xw_fs Y.2.2.2 (xw_rk ci) (xw_lk b) (M b) n)) := by
    rw [xw_at hbN]; unfold xw_cell; rw [hb]; rfl
  have hrecv := va_recv hK hP hc he
  have hp : PreV (xv_s X) H q.1.cls (Y.2.2.2 b) (va_Pc av (xw_P Y M)) As :=
    ⟨xw_blind Y av M, hrecv, fun U hU hWm => ⟨by rw [hav], ⟨by rw [hU]; exact hP, va_K.moved hWm.alike hK, hD⟩, xw_nest_warm hWm hN⟩⟩
  rcases hli with hli | ⟨host, hli⟩
  · exact va_runV (Ts := xw_W) ⟨hx, hcc, hml, hown, hts⟩ hM ⟨callB_of (Ts := xw_W) As.length hts hG rfl rfl rfl (hts _ hini) (hts _ hli) ⟨hmh.1, hmh.2, hpar⟩ hR', hts _ hv.1, hts _ hv.2⟩ hp rfl rfl hs.1 hst (lv_room hW) d hcells
  · exact va_runVN (Ts := xw_W) ⟨hx, hcc, hml, hown, hts⟩ hM ⟨va_cnB (Ts := xw_W) As.length hts hG rfl rfl rfl (hN _ hli) (hts _ hini) ⟨hmh.1, hmh.2, hpar⟩ hR', hts _ hv.1, hts _ hv.2⟩ hp rfl rfl hs.1 hst (lv_room hW) d hcells
theorem xv_runS (hX : xv_ok X Y cc own nL rm) {q : xc_q} {dz : Nat} {As rest st0 : List Value} {Qc : Array Value → State → Outcome → State → Prop} {free : Addr → Prop} (hM : Met (xv_l X) q.1 (xc_ws q) (xc_rm dz) (va_Pc As (xw_P Y M)) Qc 0 0 free) {idx : Nat} (hl : xc_L own idx q As.length) (hv : xc_LS q) (hst : st0 = As.reverse ++ rest)
    (hz : q.2.2.1 ≤ 45) (hR : dz + 1 ≤ rm.frames ∧ 64 * dz + 64 ≤ rm.locals) (hf : cells ≤ rm.cells ∧ slots ≤ rm.slots) (hW : (rest.map fun v => v.category).sum ≤ 8) (d : decode cc pc = .ok (.invokestatic idx, 3)) {H : Heap} {locs : List Loc} {ls : Array Slot} (hP : va_P Y.1 xw_Cl (xw_ws Y xw_lk M xw_N) H) (hD : va_D Y.2.2.1 (xw_ws Y xw_lk M xw_N)) (hs : lv_has ls nL L) :
    va_Run (xv_p X) (xv_l X) (xv_e X) (xv_R X) (xv_s X) (xv_m X) (xv_args X) (xv_below X) (xv_meth X) (xv_c X) H locs cells slots 0 0 (F0 (xv_m X) pc ls st0) rest (Qc As.toArray) free := by
  obtain ⟨hx, hcc, hml, hown, hts, hK, hlk, hrm, hN⟩ := hX
  obtain ⟨hli, hini, hcode, hmh, hpar⟩ := hl
  have hG := xc_good q hcode
  have hR' : (xc_rm dz).frames + 1 ≤ (xv_R X).frames ∧ 8 + (q.2.2.1 + 11) + (xc_rm dz).locals ≤ (xv_R X).locals := by
    rw [hrm]
    refine ⟨hR.1, ?_⟩
    have := hR.2
    show 8 + (q.2.2.1 + 11) + 64 * dz ≤ rm.locals
    omega
  have hcells : cells + 0 ≤ (xv_R X).cells ∧ slots + 0 ≤ (xv_R X).slots := by
    rw [hrm]
    exact hf
  have hp : PreS (xv_s X) H (va_Pc As (xw_P Y M)) As :=
    ⟨xw_blind Y As M, fun U hU hWm => ⟨rfl, ⟨by rw [hU]; exact hP, va_K.moved hWm.alike hK, hD⟩, xw_nest_warm hWm hN⟩⟩
  rcases hli with hli | ⟨host, hli⟩
  · exact va_runS (Ts := xw_W) ⟨hx, hcc, hml, hown, hts⟩ hM ⟨callB_of (Ts := xw_W) As.length hts hG rfl rfl rfl (hts _ hini) (hts _ hli) ⟨hmh.1, hmh.2, hpar⟩ hR', hts _ hv⟩ hp rfl rfl hs.1 hst (lv_room hW) d hcells
  · exact va_runSN (Ts := xw_W) ⟨hx, hcc, hml, hown, hts⟩ hM ⟨va_cnB (Ts := xw_W) As.length hts hG rfl rfl rfl (hN _ hli) (hts _ hini) ⟨hmh.1, hmh.2, hpar⟩ hR', hts _ hv, trivial⟩ hp rfl rfl hs.1 hst (lv_room hW) d hcells
/-- a call with an int answer -/
theorem xv_calli (hX : xv_ok X Y cc own nL rm) {q : xc_q} {dz : Nat} {av As rest st0 : List Value} {post : Int32 → xm_M → Prop} (hM : xc_i (xv_l X) q dz Y av M post) {idx b ci n : Nat} {T : u_T} (hl : xc_L own idx q As.length) (hv : xc_LV q) (hb : xw_K b = (0, ci, n)) (hbN : b < xw_N) (hc : xw_Cl[ci]? = some (q.1.cls, T, n)) (hav : av = .ref (Y.2.2.2 b) :: As) (hst : st0 = As.reverse ++ .ref (Y.2.2.2 b) :: rest)
    (hz : q.2.2.1 ≤ 45) (hR : dz + 1 ≤ rm.frames ∧ 64 * dz + 64 ≤ rm.locals) (hf : cells ≤ rm.cells ∧ slots ≤ rm.slots) (hW : (rest.map fun v => v.category).sum ≤ 8) (d : decode cc pc = .ok (.invokevirtual idx, 3)) (e : pc + 3 = pq)
    (h : ∀ (r : Int32) (M' : xm_M), post r M' → xv_V X Y nL cells slots xw_lk xw_N M' pq L (.int r :: rest)) : xv_V X Y nL cells slots xw_lk xw_N M pc L st0 := by
  subst e
  intro H locs ls hP hD hS hs
  refine va_calli (xv_runV hX hM hl hv hb hbN hc hav hst hz hR hf hW d hP hD hs) hS (fun q _ h => h) (fun q h => h) (fun r u t H1 locs1 ht hvm hp hB hz1 hk1 hS1 => ?_)
  obtain ⟨hP1, -, hD1⟩ := hB
  rw [ht] at hP1
  exact h r u hp H1 locs1 ls hP1 hD1 hS1 hs
/-- a call without an answer -/
theorem xv_callv (hX : xv_ok X Y cc own nL rm) {q : xc_q} {dz : Nat} {av As rest st0 : List Value} {post : xm_M → Prop} (hM : xc_v (xv_l X) q dz Y av M post) {idx b ci n : Nat} {T : u_T} (hl : xc_L own idx q As.length) (hv : xc_LV q) (hb : xw_K b = (0, ci, n)) (hbN : b < xw_N) (hc : xw_Cl[ci]? = some (q.1.cls, T, n)) (hav : av = .ref (Y.2.2.2 b) :: As) (hst : st0 = As.reverse ++ .ref (Y.2.2.2 b) :: rest)
    (hz : q.2.2.1 ≤ 45) (hR : dz + 1 ≤ rm.frames ∧ 64 * dz + 64 ≤ rm.locals) (hf : cells ≤ rm.cells ∧ slots ≤ rm.slots) (hW : (rest.map fun v => v.category).sum ≤ 8) (d : decode cc pc = .ok (.invokevirtual idx, 3)) (e : pc + 3 = pq)
    (h : ∀ (M' : xm_M), post M' → xv_V X Y nL cells slots xw_lk xw_N M' pq L rest) : xv_V X Y nL cells slots xw_lk xw_N M pc L st0 := by
  subst e
  intro H locs ls hP hD hS hs
  refine va_callv (xv_runV hX hM hl hv hb hbN hc hav hst hz hR hf hW d hP hD hs) hS (fun q _ h => h) (fun q h => h) (fun u t H1 locs1 ht hvm hp hB hz1 hk1 hS1 => ?_)
  obtain ⟨hP1, -, hD1⟩ := hB
  rw [ht] at hP1
  exact h u hp H1 locs1 ls hP1 hD1 hS1 hs
/-- a call that answers a place -/
theorem xv_callr (hX : xv_ok X Y cc own nL rm) {q : xc_q} {dz : Nat} {av As rest st0 : List Value} {post : xm_M × Nat → Prop} (hM : xc_r (xv_l X) q dz Y av M post) {idx b ci n : Nat} {T : u_T} (hl : xc_L own idx q As.length) (hv : xc_LV q) (hb : xw_K b = (0, ci, n)) (hbN : b < xw_N) (hc : xw_Cl[ci]? = some (q.1.cls, T, n)) (hav : av = .ref (Y.2.2.2 b) :: As) (hst : st0 = As.reverse ++ .ref (Y.2.2.2 b) :: rest)
    (hz : q.2.2.1 ≤ 45) (hR : dz + 1 ≤ rm.frames ∧ 64 * dz + 64 ≤ rm.locals) (hf : cells ≤ rm.cells ∧ slots ≤ rm.slots) (hW : (rest.map fun v => v.category).sum ≤ 8) (d : decode cc pc = .ok (.invokevirtual idx, 3)) (e : pc + 3 = pq)
    (h : ∀ (M' : xm_M) (z : Nat), post (M', z) → xv_V X Y nL cells slots xw_lk xw_N M' pq L (.ref (Y.2.2.2 z) :: rest)) : xv_V X Y nL cells slots xw_lk xw_N M pc L st0 := by
  subst e
  intro H locs ls hP hD hS hs
  refine va_callr (xv_runV hX hM hl hv hb hbN hc hav hst hz hR hf hW d hP hD hs) hS (fun q _ h => h) (fun q h => h) (fun u ra t H1 locs1 ht hvm hp hB hz1 hk1 hS1 => ?_)
  obtain ⟨ha, hP1, -, hD1⟩ := hB
  subst ha
  rw [ht] at hP1
  exact h u.1 u.2 hp H1 locs1 ls hP1 hD1 hS1 hs
/-- a static call with an int answer -/
theorem xv_callsi (hX : xv_ok X Y cc own nL rm) {q : xc_q} {dz : Nat} {As rest st0 : List Value} {post : Int32 → xm_M → Prop} (hM : xc_i (xv_l X) q dz Y As M post) {idx : Nat} (hl : xc_L own idx q As.length) (hv : xc_LS q) (hst : st0 = As.reverse ++ rest)
    (hz : q.2.2.1 ≤ 45) (hR : dz + 1 ≤ rm.frames ∧ 64 * dz + 64 ≤ rm.locals) (hf : cells ≤ rm.cells ∧ slots ≤ rm.slots) (hW : (rest.map fun v => v.category).sum ≤ 8) (d : decode cc pc = .ok (.invokestatic idx, 3)) (e : pc + 3 = pq)
    (h : ∀ (r : Int32) (M' : xm_M), post r M' → xv_V X Y nL cells slots xw_lk xw_N M' pq L (.int r :: rest)) : xv_V X Y nL cells slots xw_lk xw_N M pc L st0 := by
  subst e
  intro H locs ls hP hD hS hs
  refine va_calli (xv_runS hX hM hl hv hst hz hR hf hW d hP hD hs) hS (fun q _ h => h) (fun q h => h) (fun r u t H1 locs1 ht hvm hp hB hz1 hk1 hS1 => ?_)
  obtain ⟨hP1, -, hD1⟩ := hB
  rw [ht] at hP1
  exact h r u hp H1 locs1 ls hP1 hD1 hS1 hs
end XK
end
section
/-! switches; pop -/
section XS
variable {X : xv_X} {Y : xw_Y} {cc : ByteArray} {own : String} {nL cells slots : Nat} {rm : Room} {lk : xl_L} {N : Nat} {M : xm_M} {pc pq : Nat} {L : List (Nat × Value)} {st : List Value}
theorem xv_tsIn (hX : xv_ok X Y cc own nL rm) {x : Int32} {xi : Int} (hx : x.toInt = xi) {dflt lo hi off : Int} {offs : Array Int} {len tgt : Nat} (d : decode cc pc = .ok (.tableswitch dflt lo hi offs, len)) (h1 : ¬ xi < lo) (h2 : ¬ hi < xi) (ho : offs[(xi - lo).toNat]? = some off) (et : (pc : Int) + off = (tgt : Int)) (h : xv_V X Y nL cells slots lk N M tgt L st) : xv_V X Y nL cells slots lk N M pc L (.int x :: st) := by
  subst hx
  exact fun H locs ls hP hD hS hl => lv_tableIn hX.1 hX.2.1 d h1 h2 ho et (h H locs ls hP hD hS hl)
theorem xv_tsOut (hX : xv_ok X Y cc own nL rm) {x : Int32} {xi : Int} (hx : x.toInt = xi) {dflt lo hi : Int} {offs : Array Int} {len tgt : Nat} (d : decode cc pc = .ok (.tableswitch dflt lo hi offs, len)) (ho : xi < lo ∨ hi < xi) (et : (pc : Int) + dflt = (tgt : Int)) (h : xv_V X Y nL cells slots lk N M tgt L st) : xv_V X Y nL cells slots lk N M pc L (.int x :: st) := by
  subst hx
  exact fun H locs ls hP hD hS hl => lv_tableOut hX.1 hX.2.1 d ho et (h H locs ls hP hD hS hl)
theorem xv_pop (hX : xv_ok X Y cc own nL rm) {v : Value} (d : decode cc pc = .ok (.pop, 1)) (hc : v.category = 1) (e : pc + 1 = pq) (h : xv_V X Y nL cells slots lk N M pq L st) : xv_V X Y nL cells slots lk N M pc L (v :: st) := by
  subst e
  exact fun H locs ls hP hD hS hl => lv_pop hX.1 hX.2.1 d hc (h H locs ls hP hD hS hl)
end XS
end
section
/-! pasted: the family wb_ of kit/laws/BITS.to-paste, as far as it is used -/
theorem wb_tb (n : Nat) : (lN n).toBitVec = BitVec.ofNat 64 n := rfl
theorem wb_inj {a b : Int64} (h : a.toBitVec = b.toBitVec) : a = b := Int64.toBitVec_inj.mp h
theorem wb_tn {n : Nat} (h : n < 2 ^ 64) : (lN n).toBitVec.toNat = n := by rw [wb_tb, BitVec.toNat_ofNat, Nat.mod_eq_of_lt h]
theorem wb_of (x : Int64) : ∃ n, n < 2 ^ 64 ∧ x = lN n := ⟨x.toBitVec.toNat, x.toBitVec.isLt, wb_inj (by rw [wb_tb]; simp)⟩
theorem wb_of32 (x : Int32) : ∃ n, n < 2 ^ 32 ∧ x = nI n := ⟨x.toBitVec.toNat, x.toBitVec.isLt, Int32.toBitVec_inj.mp (by show _ = BitVec.ofNat 32 _; simp)⟩
theorem wb_c : ∀ k, k < 64 → ((nI k).toInt64 &&& 63) = lN k := by decide +kernel
theorem wb_cu : ∀ k, k < 64 → ((nI k).toInt64.toUInt64 &&& Int64.toUInt64 63) = UInt64.ofNat k := by decide +kernel
theorem wb_sm : ∀ k, k < 64 → (BitVec.ofNat 64 k).smod 64 = BitVec.ofNat 64 k := by decide +kernel
theorem wb_pw {a b : Nat} (h : a ≤ b) : 2 ^ b = 2 ^ a * 2 ^ (b - a) := by rw [← Nat.pow_add]; congr 1; omega
theorem wb_lt2 {a b : Nat} (h : a < b) : 2 ^ a < 2 ^ b := Nat.pow_lt_pow_right (by decide) h
theorem wb_mod (n : Nat) : lN n = lN (n % 2 ^ 64) := wb_inj (by rw [wb_tb, wb_tb]; apply BitVec.eq_of_toNat_eq; rw [BitVec.toNat_ofNat, BitVec.toNat_ofNat, Nat.mod_mod])
theorem wb_shr {n k : Nat} (hn : n < 2 ^ 64) (hk : k < 64) : ((lN n).toUInt64 >>> ((nI k).toInt64.toUInt64 &&& Int64.toUInt64 63)).toInt64 = lN (n / 2 ^ k) := by
  rw [wb_cu k hk]
  apply wb_inj
  apply BitVec.eq_of_toNat_eq
  show ((lN n).toUInt64 >>> UInt64.ofNat k).toNat = (BitVec.ofNat 64 _).toNat
  have h1 : (UInt64.ofNat k).toNat = k := by
    show (BitVec.ofNat 64 k).toNat = k
    rw [BitVec.toNat_ofNat, Nat.mod_eq_of_lt (by omega)]
  have h2 : (lN n).toUInt64.toNat = n := wb_tn hn
  rw [UInt64.toNat_shiftRight, h1, h2, Nat.mod_eq_of_lt hk, Nat.shiftRight_eq_div_pow, BitVec.toNat_ofNat, Nat.mod_eq_of_lt (Nat.lt_of_le_of_lt (Nat.div_le_self _ _) hn)]
theorem wb_shl (n : Nat) {k : Nat} (hk : k < 64) : lN n <<< ((nI k).toInt64 &&& 63) = lN (n * 2 ^ k) := by
  rw [wb_c k hk]
  apply wb_inj
  rw [Int64.toBitVec_shiftLeft, wb_tb, wb_tb, wb_tb, wb_sm k hk]
  apply BitVec.eq_of_toNat_eq
  rw [BitVec.shiftLeft_eq', BitVec.toNat_shiftLeft, BitVec.toNat_ofNat, BitVec.toNat_ofNat, BitVec.toNat_ofNat, Nat.mod_eq_of_lt (show k < 2 ^ 64 by omega), Nat.shiftLeft_eq, Nat.mul_mod, Nat.mod_mod, ← Nat.mul_mod]
end
section
/-! numbers -/
def xi_pred : Nat → Int32
  | 0 => -1
  | t + 1 => nI t
theorem xi_ofInt (n : Nat) : Int32.ofInt (n : Int) = nI n := by
  apply Int32.toBitVec_inj.mp
  simp [nI, Int32.ofInt, Int32.ofNat]
theorem xi_inc (x n : Nat) : nI x + Int32.ofInt (n : Int) = nI (x + n) := by
  rw [xi_ofInt, nI_add]
theorem xi_dec (t : Nat) : nI t + Int32.ofInt (-1) = xi_pred t := by
  cases t with
  | zero => decide
  | succ t => exact pk_m1 t
theorem xi_z {v : Nat} (h : v < 2) : narrow .boolean (.int (nI v)) = .int (nI v) := by
  rcases (show v = 0 ∨ v = 1 by omega) with rfl | rfl <;> decide
theorem xi_bv (n : Nat) : (nI n).toBitVec = BitVec.ofNat 32 n := rfl
theorem xi_tn (n : Nat) : (nI n).toBitVec.toNat = n % 4294967296 := by
  rw [xi_bv, BitVec.toNat_ofNat]
theorem xi_ext {x y : Int32} (h : x.toBitVec.toNat = y.toBitVec.toNat) : x = y := Int32.toBitVec_inj.mp (BitVec.eq_of_toNat_eq h)
theorem xi_mod (n : Nat) : nI n = nI (n % 4294967296) := by
  apply xi_ext
  rw [xi_tn, xi_tn]
  omega
theorem xi_shl8 (v : Nat) : nI v <<< ((nI 8) &&& 31) = nI (v * 256) := by
  apply xi_ext
  rw [pk_shl _ _ 8 (by decide), xi_tn, xi_tn]
  omega
set_option maxRecDepth 100000 in
theorem xi_or8 {v b : Nat} (hb : b < 256) : nI (v * 256) ||| nI b = nI (v * 256 + b) := by
  apply xi_ext
  show ((nI (v * 256)).toBitVec ||| (nI b).toBitVec).toNat = _
  rw [BitVec.toNat_or, xi_tn, xi_tn, xi_tn]
  have h1 : v * 256 % 4294967296 = 2 ^ 8 * (v % 16777216) := by omega
  have h2 : (v * 256 + b) % 4294967296 = 2 ^ 8 * (v % 16777216) + b := by omega
  have h3 : b % 4294967296 = b := by omega
  rw [h1, h2, h3]
  exact (Nat.two_pow_add_eq_or_of_lt hb _).symm
theorem xi_ltn (n : Nat) : (lN n).toBitVec.toNat = n % 18446744073709551616 := by
  show (BitVec.ofNat 64 n).toNat = _
  rw [BitVec.toNat_ofNat]
theorem xi_lext {x y : Int64} (h : x.toBitVec.toNat = y.toBitVec.toNat) : x = y := Int64.toBitVec_inj.mp (BitVec.eq_of_toNat_eq h)
theorem xi_linj {a b : Nat} (ha : a < 18446744073709551616) (hb : b < 18446744073709551616) (h : lN a = lN b) : a = b := by
  have h1 := congrArg (fun z => z.toBitVec.toNat) h
  simp only [xi_ltn] at h1
  rw [Nat.mod_eq_of_lt ha, Nat.mod_eq_of_lt hb] at h1
  exact h1
theorem xi_lshl8 (v : Nat) : lN v <<< ((nI 8).toInt64 &&& 63) = lN (v * 256) := by
  exact wb_shl v (k := 8) (by decide)
set_option maxRecDepth 100000 in
theorem xi_lor8 {v b : Nat} (hb : b < 256) : lN (v * 256) ||| lN b = lN (v * 256 + b) := by
  apply xi_lext
  show ((lN (v * 256)).toBitVec ||| (lN b).toBitVec).toNat = _
  rw [BitVec.toNat_or, xi_ltn, xi_ltn, xi_ltn]
  have h1 : v * 256 % 18446744073709551616 = 2 ^ 8 * (v % 72057594037927936) := by omega
  have h2 : (v * 256 + b) % 18446744073709551616 = 2 ^ 8 * (v % 72057594037927936) + b := by omega
  have h3 : b % 18446744073709551616 = b := by omega
  rw [h1, h2, h3]
  exact (Nat.two_pow_add_eq_or_of_lt hb _).symm
theorem xi_lcmp {a b : Nat} (ha : a < 18446744073709551616) (hb : b < 18446744073709551616) : (lg_cmp (lN a) (lN b)).toInt = 0 ↔ a = b := by
  have h0 : (lg_cmp (lN a) (lN b)).toInt = 0 ↔ lg_cmp (lN a) (lN b) = 0 := ⟨fun h => Int32.toInt_inj.mp (by rw [h]; rfl), fun h => by rw [h]; rfl⟩
  rw [h0, lg_cmp_eq]
  exact ⟨xi_linj ha hb, fun h => by rw [h]⟩
theorem xi_pow8 {v t : Nat} (h : v < 256 ^ t) (ht : t ≤ 8) : v < 18446744073709551616 :=
  Nat.lt_of_lt_of_le h (Nat.le_trans (Nat.pow_le_pow_right (by decide) ht) (by decide))
end
section
/-! What the document calls an encoding, as functions of the bytes b, a place i and a limit: none where the bytes are wrong. -/
abbrev ps_N : Type := List (List Nat)
def ps_sl (b : Nat → Nat) (f g : Nat) : List Nat := (List.range (g - f)).map (fun j => b (f + j))
def ps_hd (b : Nat → Nat) (tag i lim : Nat) : Option (Nat × Nat) :=
  if i + 2 ≤ lim ∧ b i = tag then
    if b (i + 1) ≤ 127 then
      if i + 2 + b (i + 1) ≤ lim then some (i + 2, i + 2 + b (i + 1)) else none
    else if b (i + 1) = 129 ∧ i + 3 ≤ lim ∧ 128 ≤ b (i + 2) then
      if i + 3 + b (i + 2) ≤ lim then some (i + 3, i + 3 + b (i + 2)) else none
    else none
  else none
def ps_be (b : Nat → Nat) (f : Nat) : Nat → Nat
  | 0 => 0
  | n + 1 => 256 * ps_be b f n + b (f + n)
def ps_int (b : Nat → Nat) (i lim : Nat) : Option (Nat × Nat) :=
  match ps_hd b 2 i lim with
  | none => none
  | some (f, e) => if 1 ≤ e - f ∧ e - f ≤ 4 ∧ b f ≤ 127 ∧ ¬ (1 < e - f ∧ b f = 0 ∧ b (f + 1) < 128) then some (ps_be b f (e - f), e) else none
/-- perhaps TRUE -/
def ps_tru (b : Nat → Nat) (i lim : Nat) : Option (Bool × Nat) :=
  if i < lim ∧ b i = 1 then
    match ps_hd b 1 i lim with
    | none => none
    | some (f, e) => if e = f + 1 ∧ b f = 255 then some (true, e) else none
  else some (false, i)
def ps_abc (l : List Nat) : Bool := l.all (fun x => decide (97 ≤ x) && decide (x ≤ 122))
def ps_label (b : Nat → Nat) (i lim : Nat) : Option (List Nat × Nat) :=
  match ps_hd b 19 i lim with
  | none => none
  | some (f, g) => if 1 ≤ g - f ∧ g - f ≤ 8 ∧ ps_abc (ps_sl b f g) = true then some (ps_sl b f g, g) else none
/-- labels up to e, at most so many -/
def ps_labels (b : Nat → Nat) (e : Nat) : Nat → Nat → Option ps_N
  | 0, i => if i = e then some [] else none
  | n + 1, i =>
    if i = e then some [] else
    match ps_label b i e with
    | none => none
    | some (x, j) => match ps_labels b e n j with
      | none => none
      | some l => some (x :: l)
def ps_name (b : Nat → Nat) (i lim : Nat) : Option (ps_N × Nat) :=
  match ps_hd b 48 i lim with
  | none => none
  | some (f, e) => match ps_labels b e 4 f with
    | none => none
    | some l => some (l, e)
/-- names up to e, at most so many -/
def ps_names (b : Nat → Nat) (e : Nat) : Nat → Nat → Option (List ps_N)
  | 0, i => if i = e then some [] else none
  | n + 1, i =>
    if i = e then some [] else
    match ps_name b i e with
    | none => none
    | some (x, j) => match ps_names b e n j with
      | none => none
      | some l => some (x :: l)
/-- perhaps a list of 1 to 3 names -/
def ps_list (b : Nat → Nat) (tag i lim : Nat) : Option (List ps_N × Nat) :=
  if i < lim ∧ b i = tag then
    match ps_hd b tag i lim with
    | none => none
    | some (f, e) => if f = e then none else match ps_names b e 3 f with
      | none => none
      | some l => some (l, e)
  else some ([], i)
/-- how many bits lie behind the lowest one set, of the bits from k on; n bits are looked at -/
def ps_tz (x : Nat) : Nat → Nat → Nat
  | 0, k => k
  | n + 1, k => if x / 2 ^ k % 2 = 0 then ps_tz x n (k + 1) else k
/-- the lowest n bits, read backwards -/
def ps_mir (x : Nat) : Nat → Nat
  | 0 => 0
  | n + 1 => 2 * ps_mir x n + x / 2 ^ n % 2
/-- an element with this tag, its content being just that -/
def pq_in {α : Type} (b : Nat → Nat) (tag : Nat) (P : Nat → Nat → Option (α × Nat)) (i l : Nat) : Option (α × Nat) :=
  match ps_hd b tag i l with
  | none => none
  | some (f, e) => match P f e with
    | none => none
    | some (x, j) => if j = e then some (x, e) else none
/-- one behind the other -/
def pq_and {α β : Type} (P : Nat → Nat → Option (α × Nat)) (Q : Nat → Nat → Option (β × Nat)) (i l : Nat) : Option ((α × β) × Nat) :=
  match P i l with
  | none => none
  | some (x, j) => match Q j l with
    | none => none
    | some (y, k) => some ((x, y), k)
/-- with the places from .. to -/
def pq_pos {α : Type} (P : Nat → Nat → Option (α × Nat)) (i l : Nat) : Option ((α × Nat × Nat) × Nat) :=
  match P i l with
  | none => none
  | some (x, j) => some ((x, i, j), j)
/-- an INTEGER lo .. hi -/
def ps_intr (b : Nat → Nat) (lo hi i l : Nat) : Option (Nat × Nat) :=
  match ps_int b i l with
  | none => none
  | some (v, j) => if lo ≤ v ∧ v ≤ hi then some (v, j) else none
def ps_two (b : Nat → Nat) (lo hi lo' hi' : Nat) : Nat → Nat → Option ((Nat × Nat) × Nat) := pq_in b 48 (pq_and (ps_intr b lo hi) (ps_intr b lo' hi'))
/-- the two lists of bounds -/
def ps_bnd (b : Nat → Nat) (i l : Nat) : Option ((List ps_N × List ps_N) × Nat) :=
  match pq_and (ps_list b 160) (ps_list b 161) i l with
  | none => none
  | some ((p, x), j) => if p = [] ∧ x = [] then none else some ((p, x), j)
def ps_bounds (b : Nat → Nat) : Nat → Nat → Option ((List ps_N × List ps_N) × Nat) := pq_in b 48 (ps_bnd b)
/-- the bytes of BITS -/
def ps_bit (b : Nat → Nat) (i l : Nat) : Option (Nat × Nat) :=
  if i < l then
    if i + 1 < l then
      if b (i + 1) ≠ 0 ∧ b i = ps_tz (b (i + 1)) 8 0 then some (b (i + 1), i + 2) else none
    else if b i = 0 then some (0, i + 1) else none
  else none
def ps_bits (b : Nat → Nat) : Nat → Nat → Option (Nat × Nat) := pq_in b 3 (ps_bit b)
def ps_bas (b : Nat → Nat) (i l : Nat) : Option ((Bool × Option Nat) × Nat) :=
  match ps_tru b i l with
  | none => none
  | some (t, j) => if t = true ∧ j < l then (match ps_intr b 0 2147483647 j l with
      | none => none
      | some (v, k) => some ((t, some v), k))
    else some ((t, none), j)
def ps_basic (b : Nat → Nat) : Nat → Nat → Option ((Bool × Option Nat) × Nat) := pq_in b 48 (ps_bas b)
/-- what the extensions say: number, critical, octets of each; authority, reach, the byte of the usage, names permitted, names excluded -/
abbrev ps_E : Type := List (Nat × Bool × List Nat) × Bool × Option Nat × Option Nat × List ps_N × List ps_N
def ps_E0 : ps_E := ([], false, none, none, [], [])
def ps_or (r s : Option Nat) : Option Nat := match r with
  | some v => some v
  | none => s
/-- the content of the octets of an extension -/
def ps_con (b : Nat → Nat) (num : Nat) (c : Bool) (E : ps_E) (i l : Nat) : Option (ps_E × Nat) :=
  if num = 1 then
    match ps_basic b i l with
    | none => none
    | some ((t, r), k) => some ((E.1 ++ [(num, c, [])], t, ps_or r E.2.2.1, E.2.2.2), k)
  else if num = 2 then
    match ps_bits b i l with
    | none => none
    | some (u, k) => some ((E.1 ++ [(num, c, [])], E.2.1, E.2.2.1, some u, E.2.2.2.2), k)
  else if num = 3 then
    match ps_bounds b i l with
    | none => none
    | some ((p, x), k) => some ((E.1 ++ [(num, c, [])], E.2.1, E.2.2.1, E.2.2.2.1, p, x), k)
  else if l - i ≤ 20 then some ((E.1 ++ [(num, c, ps_sl b i l)], E.2), l) else none
/-- the content of an extension -/
def ps_exc (b : Nat → Nat) (E : ps_E) (i l : Nat) : Option (ps_E × Nat) :=
  match ps_intr b 0 255 i l with
  | none => none
  | some (num, j) =>
    if (E.1.any (fun x => x.1 == num)) = true then none else
    match ps_tru b j l with
    | none => none
    | some (c, k) => pq_in b 4 (ps_con b num c E) k l
def ps_ext (b : Nat → Nat) (E : ps_E) : Nat → Nat → Option (ps_E × Nat) := pq_in b 48 (ps_exc b E)
/-- extensions, one at least, at most n + 1 -/
def ps_exts (b : Nat → Nat) : Nat → ps_E → Nat → Nat → Option (ps_E × Nat)
  | 0, E, i, l => ps_ext b E i l
  | n + 1, E, i, l => match ps_ext b E i l with
    | none => none
    | some (E', j) => if j < l then ps_exts b n E' j l else some (E', j)
/-- perhaps a FOURTH -/
def ps_more (b : Nat → Nat) (i l : Nat) : Option (ps_E × Nat) :=
  if i < l ∧ b i = 163 then pq_in b 163 (pq_in b 48 (ps_exts b 3 ps_E0)) i l else some (ps_E0, i)
/-- serial, issuer, (from, to), subject, (modulus, exponent) -/
abbrev ps_H : Type := Nat × ps_N × (Nat × Nat) × ps_N × (Nat × Nat)
def ps_head (b : Nat → Nat) : Nat → Nat → Option (ps_H × Nat) := pq_and (ps_intr b 0 2147483647) (pq_and (ps_name b) (pq_and (ps_two b 0 2147483647 0 2147483647) (pq_and (ps_name b) (ps_two b 2 2147483647 1 1000))))
/-- ((head, extensions), the body's bytes from .. to), signature -/
abbrev ps_C : Type := ((ps_H × ps_E) × Nat × Nat) × Nat
def ps_crt (b : Nat → Nat) : Nat → Nat → Option (ps_C × Nat) := pq_in b 48 (pq_and (pq_pos (pq_in b 48 (pq_and (ps_head b) (ps_more b)))) (ps_intr b 0 2147483647))
/-- a certificate is all of the bytes i .. l - 1 -/
def ps_cert (b : Nat → Nat) (i l : Nat) : Option ps_C := match ps_crt b i l with
  | none => none
  | some (x, j) => if j = l then some x else none
def ps_hash (b : Nat → Nat) (f : Nat) : Nat → Nat
  | 0 => 0
  | n + 1 => (263 * ps_hash b f n + b (f + n) + 1) % 1000003
theorem ps_hash_lt (b : Nat → Nat) (f n : Nat) : ps_hash b f n < 1000003 := by
  cases n with
  | zero => simp [ps_hash]
  | succ n => exact Nat.mod_lt _ (by decide)
theorem ps_hd_some {b : Nat → Nat} {tag i lim f e : Nat} (h : ps_hd b tag i lim = some (f, e)) : i + 2 ≤ f ∧ f ≤ i + 3 ∧ f ≤ e ∧ e ≤ lim ∧ b i = tag ∧ i < lim := by
  unfold ps_hd at h
  repeat' split at h
  all_goals first
    | (cases h; done)
    | (simp only [Option.some.injEq, Prod.mk.injEq] at h; omega)
end
section
/-! The reader: none after a fault, else the place and the limits of what is open, the innermost first -/
abbrev rd_S : Type := Option (Nat × List Nat)
def rd_lims (f : Nat → Nat) : Nat → List Nat
  | 0 => [f 0]
  | d + 1 => f (d + 1) :: rd_lims f d
def rd_of (M : xm_M) : rd_S := if M 1 4 = 1 then some (M 1 3, rd_lims (M 4) (M 1 2)) else none
/-- the reader's numbers are in their bounds -/
def rd_I (M : xm_M) : Prop := M 2 1 ≤ 160 ∧ (∀ j, j < 160 → M 3 j < 256) ∧ M 1 2 ≤ 10 ∧ M 1 3 ≤ M 2 1 ∧ M 1 4 ≤ 1 ∧ (∀ j, j ≤ M 1 2 → M 4 j ≤ M 2 1) ∧ (M 1 4 = 1 → M 1 3 ≤ M 4 (M 1 2) ∧ ∀ j, j < M 1 2 → M 4 (j + 1) ≤ M 4 j)
/-- only the reader's own cells are other ones -/
def rd_F (M M' : xm_M) : Prop := ∀ q, q ≠ 1 → q ≠ 4 → M' q = M q
theorem rd_F.rf (M : xm_M) : rd_F M M := fun _ _ _ => rfl
theorem rd_F.tr {A B C : xm_M} (h : rd_F A B) (g : rd_F B C) : rd_F A C := fun q h1 h2 => (g q h1 h2).trans (h q h1 h2)
def rd_open (b : Nat → Nat) (tag : Nat) : rd_S → rd_S
  | some (i, l :: ls) => if ls.length < 10 then (match ps_hd b tag i l with
    | some (f, e) => some (f, e :: l :: ls)
    | none => none) else none
  | _ => none
def rd_close : rd_S → rd_S
  | some (i, l :: m :: ls) => if i = l then some (i, m :: ls) else none
  | _ => none
def rd_rem : rd_S → Nat
  | some (i, l :: _) => l - i
  | _ => 0
def rd_is (b : Nat → Nat) (tag : Nat) : rd_S → Bool
  | some (i, l :: _) => decide (i < l) && decide (b i = tag)
  | _ => false
def rd_byte (b : Nat → Nat) : rd_S → Nat
  | some (i, l :: _) => if i < l then b i else 0
  | _ => 0
def rd_next : rd_S → rd_S
  | some (i, l :: ls) => if i < l then some (i + 1, l :: ls) else none
  | _ => none
theorem rd_lims_eq {f g : Nat → Nat} : ∀ d, (∀ j, j ≤ d → f j = g j) → rd_lims f d = rd_lims g d
  | 0, h => by simp [rd_lims, h]
  | d + 1, h => by simp [rd_lims, h, rd_lims_eq d (fun j hj => h j (by omega))]
theorem rd_lims_len (f : Nat → Nat) : ∀ d, (rd_lims f d).length = d + 1
  | 0 => rfl
  | d + 1 => by simp [rd_lims, rd_lims_len f d]
theorem rd_lims_hd (f : Nat → Nat) : ∀ d, ∃ ls, rd_lims f d = f d :: ls ∧ ls.length = d
  | 0 => ⟨[], rfl, rfl⟩
  | d + 1 => ⟨rd_lims f d, rfl, rd_lims_len f d⟩
def rd_end : rd_S → Bool
  | some (i, [l]) => decide (i = l)
  | _ => false
/-- what a step of the reader leaves -/
def rd_Q (M M' : xm_M) (s : rd_S) : Prop := rd_I M' ∧ rd_F M M' ∧ rd_of M' = s
theorem rd_of0 {M : xm_M} (h : M 1 4 = 0) : rd_of M = none := by simp [rd_of, h]
theorem rd_of1 {M : xm_M} (h : M 1 4 = 1) : ∃ ls, ls.length = M 1 2 ∧ rd_of M = some (M 1 3, M 4 (M 1 2) :: ls) ∧ rd_lims (M 4) (M 1 2) = M 4 (M 1 2) :: ls := by
  obtain ⟨ls, h1, h2⟩ := rd_lims_hd (M 4) (M 1 2)
  exact ⟨ls, h2, by simp [rd_of, h, h1], h1⟩
theorem rd_ref {M : xm_M} (h : rd_I M) : rd_Q M (xm_set M 1 4 0) none := by
  obtain ⟨h1, h2, h3, h4, h5, h6, h7⟩ := h
  exact ⟨⟨h1, h2, h3, h4, Nat.zero_le _, h6, fun h => absurd h (show ¬ 0 = 1 by decide)⟩, fun q a b => xm_oth a, rd_of0 rfl⟩
theorem rd_opN {M : xm_M} {tag : Nat} (hI : rd_I M) (h : M 1 4 = 0 ∨ 10 ≤ M 1 2 ∨ ps_hd (M 3) tag (M 1 3) (M 4 (M 1 2)) = none) : rd_Q M (xm_set M 1 4 0) (rd_open (M 3) tag (rd_of M)) := by
  have e : rd_open (M 3) tag (rd_of M) = none := by
    by_cases hs : M 1 4 = 1
    · obtain ⟨ls, hl, hr, -⟩ := rd_of1 hs
      rw [hr]
      unfold rd_open
      rcases h with h | h | h
      · omega
      · simp only []
        rw [if_neg (by omega)]
      · simp only []
        rw [h]
        split <;> rfl
    · have : M 1 4 = 0 := by
        have := hI.2.2.2.2.1
        omega
      rw [rd_of0 this]
      rfl
  rw [e]
  exact rd_ref hI
theorem rd_opY {M : xm_M} {tag f e : Nat} (hI : rd_I M) (hs : M 1 4 = 1) (hd : M 1 2 < 10) (h : ps_hd (M 3) tag (M 1 3) (M 4 (M 1 2)) = some (f, e)) : rd_Q M (xm_set (xm_set (xm_set M 1 3 f) 1 2 (M 1 2 + 1)) 4 (M 1 2 + 1) e) (rd_open (M 3) tag (rd_of M)) := by
  obtain ⟨g1, g2, g3, g4, -⟩ := ps_hd_some h
  obtain ⟨ls, hl, hr, hm⟩ := rd_of1 hs
  have e1 : rd_open (M 3) tag (rd_of M) = some (f, e :: M 4 (M 1 2) :: ls) := by
    rw [hr]
    unfold rd_open
    simp only []
    rw [if_pos (by omega), h]
  obtain ⟨h1, h2, h3, h4, h5, h6, h7⟩ := hI
  have h6' := h6 (M 1 2) (Nat.le_refl _)
  refine ⟨⟨h1, h2, show M 1 2 + 1 ≤ 10 by omega, show f ≤ M 2 1 by omega, h5, ?_, ?_⟩, ?_, ?_⟩
  · intro j hj
    have hj : j ≤ M 1 2 + 1 := hj
    show (if j = M 1 2 + 1 then e else M 4 j) ≤ M 2 1
    split
    · omega
    · exact h6 j (by omega)
  · intro _
    refine ⟨?_, fun j hj => ?_⟩
    · show f ≤ (if M 1 2 + 1 = M 1 2 + 1 then e else _)
      rw [if_pos rfl]
      exact g3
    · have hj : j < M 1 2 + 1 := hj
      show (if j + 1 = M 1 2 + 1 then e else M 4 (j + 1)) ≤ (if j = M 1 2 + 1 then e else M 4 j)
      rw [if_neg (show ¬ j = M 1 2 + 1 by omega)]
      split
      · rw [show j = M 1 2 by omega]
        exact g4
      · exact (h7 hs).2 j (by omega)
  · intro q a b
    rw [xm_oth b, xm_oth a, xm_oth a]
  · rw [e1]
    have : rd_lims ((xm_set (xm_set (xm_set M 1 3 f) 1 2 (M 1 2 + 1)) 4 (M 1 2 + 1) e) 4) (M 1 2 + 1) = e :: M 4 (M 1 2) :: ls := by
      unfold rd_lims
      rw [rd_lims_eq (f := (xm_set (xm_set (xm_set M 1 3 f) 1 2 (M 1 2 + 1)) 4 (M 1 2 + 1) e) 4) (g := M 4) (M 1 2) (fun j hj => (xm_nk (by omega)).trans ((xm_np (by decide)).trans (xm_np (by decide)))), hm]
      show (if M 1 2 + 1 = M 1 2 + 1 then e else _) :: _ = _
      rw [if_pos rfl]
    show (if M 1 4 = 1 then some (f, rd_lims ((xm_set (xm_set (xm_set M 1 3 f) 1 2 (M 1 2 + 1)) 4 (M 1 2 + 1) e) 4) (M 1 2 + 1)) else none) = _
    rw [if_pos hs, this]
theorem rd_clN {M : xm_M} (hI : rd_I M) (h : M 1 4 = 0 ∨ M 1 2 = 0 ∨ M 1 3 ≠ M 4 (M 1 2)) : rd_Q M (xm_set M 1 4 0) (rd_close (rd_of M)) := by
  have e : rd_close (rd_of M) = none := by
    by_cases hs : M 1 4 = 1
    · obtain ⟨ls, hl, hr, -⟩ := rd_of1 hs
      rw [hr]
      rcases h with h | h | h
      · omega
      · rw [h] at hl
        rw [List.eq_nil_of_length_eq_zero hl]
        rfl
      · cases ls with
        | nil => rfl
        | cons m ls =>
          unfold rd_close
          simp only []
          rw [if_neg h]
    · rw [rd_of0 (by have := hI.2.2.2.2.1; omega)]
      rfl
  rw [e]
  exact rd_ref hI
theorem rd_clY {M : xm_M} (hI : rd_I M) (hs : M 1 4 = 1) (hd : M 1 2 ≠ 0) (h : M 1 3 = M 4 (M 1 2)) : rd_Q M (xm_set M 1 2 (M 1 2 - 1)) (rd_close (rd_of M)) := by
  obtain ⟨d, hd⟩ : ∃ d, M 1 2 = d + 1 := ⟨M 1 2 - 1, by omega⟩
  have e1 : rd_of M = some (M 1 3, M 4 (d + 1) :: rd_lims (M 4) d) := by
    simp [rd_of, hs, hd, rd_lims]
  obtain ⟨ls, hm, hl⟩ := rd_lims_hd (M 4) d
  rw [hd] at h
  have e2 : rd_close (rd_of M) = some (M 1 3, rd_lims (M 4) d) := by
    rw [e1, hm]
    unfold rd_close
    simp only []
    rw [if_pos h]
  rw [e2, hd]
  obtain ⟨h1, h2, h3, h4, h5, h6, h7⟩ := hI
  refine ⟨⟨h1, h2, show d + 1 - 1 ≤ 10 by omega, h4, h5, fun j hj => h6 j ?_, fun _ => ?_⟩, fun q a b => xm_oth a, ?_⟩
  · have hj : j ≤ d + 1 - 1 := hj
    omega
  · have h8 := (h7 hs).2 d (by omega)
    refine ⟨?_, fun j hj => (h7 hs).2 j ?_⟩
    · show M 1 3 ≤ M 4 (d + 1 - 1)
      rw [Nat.add_sub_cancel]
      omega
    · have hj : j < d + 1 - 1 := hj
      omega
  · show (if M 1 4 = 1 then some (M 1 3, rd_lims (M 4) (d + 1 - 1)) else none) = _
    rw [if_pos hs]
    rfl
theorem rd_nxN {M : xm_M} (hI : rd_I M) (h : M 1 4 = 0 ∨ M 4 (M 1 2) ≤ M 1 3) : rd_Q M (xm_set M 1 4 0) (rd_next (rd_of M)) ∧ rd_byte (M 3) (rd_of M) = 0 := by
  by_cases hs : M 1 4 = 1
  · obtain ⟨ls, hl, hr, -⟩ := rd_of1 hs
    have h : M 4 (M 1 2) ≤ M 1 3 := by omega
    rw [hr]
    unfold rd_next rd_byte
    simp only []
    rw [if_neg (by omega), if_neg (by omega)]
    exact ⟨rd_ref hI, rfl⟩
  · rw [rd_of0 (by have := hI.2.2.2.2.1; omega)]
    exact ⟨rd_ref hI, rfl⟩
theorem rd_nxY {M : xm_M} (hI : rd_I M) (hs : M 1 4 = 1) (h : M 1 3 < M 4 (M 1 2)) : rd_Q M (xm_set M 1 3 (M 1 3 + 1)) (rd_next (rd_of M)) ∧ rd_byte (M 3) (rd_of M) = M 3 (M 1 3) := by
  obtain ⟨ls, hl, hr, hm⟩ := rd_of1 hs
  rw [hr]
  unfold rd_next rd_byte
  simp only []
  rw [if_pos h, if_pos h]
  obtain ⟨h1, h2, h3, h4, h5, h6, h7⟩ := hI
  have h6' := h6 (M 1 2) (Nat.le_refl _)
  refine ⟨⟨⟨h1, h2, h3, show M 1 3 + 1 ≤ M 2 1 by omega, h5, h6, fun _ => ⟨show M 1 3 + 1 ≤ M 4 (M 1 2) by omega, (h7 hs).2⟩⟩, fun q a b => xm_oth a, ?_⟩, rfl⟩
  show (if M 1 4 = 1 then some (M 1 3 + 1, rd_lims (M 4) (M 1 2)) else none) = _
  rw [if_pos hs, hm]
theorem rd_st {M : xm_M} (h1 : M 2 1 ≤ 160) (h2 : ∀ j, j < 160 → M 3 j < 256) : rd_Q M (xm_set (xm_set (xm_set (xm_set M 1 2 0) 4 0 (M 2 1)) 1 3 0) 1 4 1) (some (0, [M 2 1])) := by
  refine ⟨⟨h1, h2, Nat.zero_le _, Nat.zero_le _, Nat.le_refl _, fun j hj => ?_, fun _ => ⟨Nat.zero_le _, fun j hj => absurd hj (Nat.not_lt_zero _)⟩⟩, ?_, rfl⟩
  · have hj : j ≤ 0 := hj
    rw [show j = 0 by omega]
    exact Nat.le_refl _
  · intro q a b
    rw [xm_oth a, xm_oth a, xm_oth b, xm_oth a]
theorem rd_remE {M : xm_M} (hI : rd_I M) : rd_rem (rd_of M) = if M 1 4 = 0 then 0 else M 4 (M 1 2) - M 1 3 := by
  by_cases hs : M 1 4 = 1
  · obtain ⟨ls, hl, hr, hm⟩ := rd_of1 hs
    rw [hr, if_neg (by omega)]
    rfl
  · have h0 : M 1 4 = 0 := by have := hI.2.2.2.2.1; omega
    rw [rd_of0 h0, if_pos h0]
    rfl
theorem rd_isE {M : xm_M} (hI : rd_I M) (tag : Nat) : rd_is (M 3) tag (rd_of M) = (decide (M 1 4 = 1) && (decide (M 1 3 < M 4 (M 1 2)) && decide (M 3 (M 1 3) = tag))) := by
  by_cases hs : M 1 4 = 1
  · obtain ⟨ls, hl, hr, hm⟩ := rd_of1 hs
    rw [hr, hs]
    rfl
  · have h0 : M 1 4 = 0 := by have := hI.2.2.2.2.1; omega
    rw [rd_of0 h0, h0]
    rfl
theorem rd_endE {M : xm_M} (hI : rd_I M) : rd_end (rd_of M) = (decide (M 1 4 = 1) && (decide (M 1 2 = 0) && decide (M 1 3 = M 4 0))) := by
  by_cases hs : M 1 4 = 1
  · by_cases hd : M 1 2 = 0
    · simp [rd_of, hs, hd, rd_lims, rd_end]
    · obtain ⟨d, hd⟩ : ∃ d, M 1 2 = d + 1 := ⟨M 1 2 - 1, by omega⟩
      obtain ⟨ls, hm, hl⟩ := rd_lims_hd (M 4) d
      simp [rd_of, hs, hd, rd_lims, hm, rd_end]
  · have h0 : M 1 4 = 0 := by have := hI.2.2.2.2.1; omega
    rw [rd_of0 h0, h0]
    rfl
end
section
/-! INTEGER and TRUE, as the reader reads them -/
theorem rd_Q.tr {A B C : xm_M} {s t : rd_S} (h : rd_Q A B s) (g : rd_Q B C t) : rd_Q A C t := ⟨g.1, h.2.1.tr g.2.1, g.2.2⟩
theorem rd_openI {b : Nat → Nat} {tag f : Nat} {st : rd_S} {L : List Nat} (h : rd_open b tag st = some (f, L)) : ∃ i e l ls, st = some (i, l :: ls) ∧ ls.length < 10 ∧ ps_hd b tag i l = some (f, e) ∧ L = e :: l :: ls := by
  rcases st with _ | ⟨i, _ | ⟨l, ls⟩⟩
  · cases h
  · cases h
  · unfold rd_open at h
    simp only [] at h
    split at h
    · rename_i hl
      split at h
      · rename_i f' e' hh
        simp only [Option.some.injEq, Prod.mk.injEq] at h
        obtain ⟨rfl, rfl⟩ := h
        exact ⟨i, e', l, ls, rfl, hl, hh, rfl⟩
      · cases h
    · cases h
theorem rd_remP {st : rd_S} (h : 1 ≤ rd_rem st) : ∃ f e ls, st = some (f, e :: ls) ∧ rd_rem st = e - f := by
  rcases st with _ | ⟨i, _ | ⟨l, ls⟩⟩
  · exact absurd h (by simp [rd_rem])
  · exact absurd h (by simp [rd_rem])
  · exact ⟨i, l, ls, rfl, rfl⟩
theorem rd_rem_le {M : xm_M} (hI : rd_I M) : rd_rem (rd_of M) ≤ 160 := by
  rw [rd_remE hI]
  have h1 := hI.1
  have h6 := hI.2.2.2.2.2.1 (M 1 2) (Nat.le_refl _)
  split <;> omega
theorem rd_byte_lt {M : xm_M} (hI : rd_I M) : rd_byte (M 3) (rd_of M) < 256 := by
  by_cases hs : M 1 4 = 1
  · obtain ⟨ls, hl, hr, hm⟩ := rd_of1 hs
    rw [hr]
    unfold rd_byte
    simp only []
    have h6 := hI.2.2.2.2.2.1 (M 1 2) (Nat.le_refl _)
    have h1 := hI.1
    split
    · exact hI.2.1 _ (by omega)
    · decide
  · rw [rd_of0 (by have := hI.2.2.2.2.1; omega)]
    exact (show 0 < 256 by decide)
def rd_int (b : Nat → Nat) (lo hi : Nat) : rd_S → rd_S × Nat
  | some (i, l :: ls) => if ls.length < 10 then (match ps_int b i l with
    | some (v, j) => if lo ≤ v ∧ v ≤ hi then (some (j, l :: ls), v) else (none, lo)
    | none => (none, lo)) else (none, lo)
  | _ => (none, lo)
theorem rd_intA {b : Nat → Nat} {lo hi : Nat} {st : rd_S} (h : ¬ (1 ≤ rd_rem (rd_open b 2 st) ∧ rd_rem (rd_open b 2 st) ≤ 4)) : rd_int b lo hi st = (none, lo) := by
  rcases st with _ | ⟨i, _ | ⟨l, ls⟩⟩
  · rfl
  · rfl
  · unfold rd_open at h
    unfold rd_int ps_int
    simp only [] at h ⊢
    by_cases hl : ls.length < 10
    · rw [if_pos hl] at h ⊢
      cases hh : ps_hd b 2 i l with
      | none => rfl
      | some p =>
        obtain ⟨f, e⟩ := p
        rw [hh] at h
        simp only [rd_rem] at h
        simp only []
        rw [if_neg (fun z => h ⟨z.1, z.2.1⟩)]
    · rw [if_neg hl]
theorem rd_intB {b : Nat → Nat} {lo hi f e : Nat} {ls : List Nat} {st : rd_S} (h : rd_open b 2 st = some (f, e :: ls)) (hn : 1 ≤ e - f ∧ e - f ≤ 4) : rd_int b lo hi st = if b f ≤ 127 ∧ ¬ (1 < e - f ∧ b f = 0 ∧ b (f + 1) < 128) ∧ lo ≤ ps_be b f (e - f) ∧ ps_be b f (e - f) ≤ hi then (some (e, ls), ps_be b f (e - f)) else (none, lo) := by
  obtain ⟨i, e', l, ls', rfl, hl, hh, he⟩ := rd_openI h
  simp only [List.cons.injEq] at he
  obtain ⟨rfl, rfl⟩ := he
  unfold rd_int ps_int
  simp only [hh]
  rw [if_pos hl]
  by_cases h1 : b f ≤ 127 ∧ ¬ (1 < e - f ∧ b f = 0 ∧ b (f + 1) < 128)
  · rw [if_pos ⟨hn.1, hn.2, h1.1, h1.2⟩]
    simp only []
    by_cases h2 : lo ≤ ps_be b f (e - f) ∧ ps_be b f (e - f) ≤ hi
    · rw [if_pos h2, if_pos ⟨h1.1, h1.2, h2.1, h2.2⟩]
    · rw [if_neg h2, if_neg (fun z => h2 z.2.2)]
  · rw [if_neg (fun z => h1 ⟨z.2.2.1, z.2.2.2⟩), if_neg (fun z => h1 ⟨z.1, z.2.1⟩)]
/-- the reader within an INTEGER, j + 1 bytes being read -/
def rd_ib (b : Nat → Nat) (f e : Nat) (ls : List Nat) (j : Nat) : rd_S := if 1 ≤ j ∧ b f = 0 ∧ b (f + 1) < 128 then none else some (f + (j + 1), e :: ls)
theorem rd_ib_next {b : Nat → Nat} {f e j : Nat} {ls : List Nat} (hj : j + 1 < e - f) (h : 1 ≤ j ∨ b f ≠ 0 ∨ 128 ≤ b (f + 1)) : rd_next (rd_ib b f e ls j) = rd_ib b f e ls (j + 1) := by
  unfold rd_ib
  by_cases c : 1 ≤ j ∧ b f = 0 ∧ b (f + 1) < 128
  · rw [if_pos c, if_pos ⟨by omega, c.2⟩]
    rfl
  · rw [if_neg c, if_neg (by omega)]
    unfold rd_next
    simp only []
    rw [if_pos (by omega)]
    rfl
theorem rd_ib_byte {b : Nat → Nat} {f e j : Nat} {ls : List Nat} (hj : j + 1 < e - f) (h : ¬ (1 ≤ j ∧ b f = 0 ∧ b (f + 1) < 128)) : rd_byte b (rd_ib b f e ls j) = b (f + (j + 1)) := by
  unfold rd_ib
  rw [if_neg h]
  unfold rd_byte
  simp only []
  rw [if_pos (by omega)]
theorem rd_ib_close {b : Nat → Nat} {f e j : Nat} {m : Nat} {ls : List Nat} (hj : j + 1 = e - f) : rd_close (rd_ib b f e (m :: ls) j) = if 1 < e - f ∧ b f = 0 ∧ b (f + 1) < 128 then none else some (e, m :: ls) := by
  unfold rd_ib
  by_cases c : 1 ≤ j ∧ b f = 0 ∧ b (f + 1) < 128
  · rw [if_pos c, if_pos ⟨by omega, c.2⟩]
    rfl
  · rw [if_neg c, if_neg (by omega)]
    unfold rd_close
    simp only []
    rw [if_pos (by omega)]
    simp only [Option.some.injEq, Prod.mk.injEq, and_true]
    omega
theorem rd_pow4 {x v j : Nat} (hx : x ≤ 127) (hj : j ≤ 3) (h : v < (x + 1) * 256 ^ j) : v < 2147483648 := by
  rcases (show j = 0 ∨ j = 1 ∨ j = 2 ∨ j = 3 by omega) with rfl | rfl | rfl | rfl <;> simp at h <;> omega
def rd_tru (b : Nat → Nat) : rd_S → rd_S × Bool
  | some (i, l :: ls) => if i < l ∧ b i = 1 then (if ls.length < 10 then (match ps_tru b i l with
    | some (t, j) => (some (j, l :: ls), t)
    | none => (none, true)) else (none, true)) else (some (i, l :: ls), false)
  | st => (st, false)
theorem rd_isP {b : Nat → Nat} {tag : Nat} {st : rd_S} (h : rd_is b tag st = true) : ∃ i l ls, st = some (i, l :: ls) ∧ i < l ∧ b i = tag := by
  rcases st with _ | ⟨i, _ | ⟨l, ls⟩⟩
  · cases h
  · cases h
  · simp only [rd_is, Bool.and_eq_true, decide_eq_true_eq] at h
    exact ⟨i, l, ls, rfl, h.1, h.2⟩
theorem rd_truF {b : Nat → Nat} {st : rd_S} (h : rd_is b 1 st = false) : rd_tru b st = (st, false) := by
  rcases st with _ | ⟨i, _ | ⟨l, ls⟩⟩
  · rfl
  · rfl
  · simp only [rd_is] at h
    unfold rd_tru
    simp only []
    rw [if_neg]
    intro z
    simp [z.1, z.2] at h
theorem rd_truT {b : Nat → Nat} {st : rd_S} (h : rd_is b 1 st = true) : (rd_tru b st).1 = rd_close (if rd_byte b (rd_open b 1 st) = 255 then rd_next (rd_open b 1 st) else none) := by
  obtain ⟨i, l, ls, rfl, h1, h2⟩ := rd_isP h
  have hc : i < l ∧ b i = 1 := ⟨h1, h2⟩
  by_cases hl : ls.length < 10
  · cases hh : ps_hd b 1 i l with
    | none =>
      have ho : rd_open b 1 (some (i, l :: ls)) = none := by unfold rd_open; simp only [if_pos hl, hh]
      have ht : (rd_tru b (some (i, l :: ls))).1 = none := by unfold rd_tru ps_tru; simp only [if_pos hc, if_pos hl, hh]
      rw [ho, ht]
      rfl
    | some p =>
      obtain ⟨f, e⟩ := p
      obtain ⟨g1, g2, g3, g4, -⟩ := ps_hd_some hh
      have ho : rd_open b 1 (some (i, l :: ls)) = some (f, e :: l :: ls) := by unfold rd_open; simp only [if_pos hl, hh]
      have ht : (rd_tru b (some (i, l :: ls))).1 = if e = f + 1 ∧ b f = 255 then some (e, l :: ls) else none := by
        unfold rd_tru ps_tru
        simp only [if_pos hc, if_pos hl, hh]
        split
        · rename_i h9
          split at h9
          · rename_i h8
            rw [if_pos h8]
            simp only [Option.some.injEq, Prod.mk.injEq] at h9
            rw [h9.2]
          · cases h9
        · rename_i h9
          split at h9
          · cases h9
          · rename_i h8
            rw [if_neg h8]
      rw [ho, ht]
      by_cases hfe : f < e
      · have hb : rd_byte b (some (f, e :: l :: ls)) = b f := if_pos hfe
        have hx : rd_next (some (f, e :: l :: ls)) = some (f + 1, e :: l :: ls) := if_pos hfe
        rw [hb, hx]
        by_cases hb : b f = 255
        · rw [if_pos hb]
          unfold rd_close
          simp only []
          by_cases hx : f + 1 = e
          · rw [if_pos hx, if_pos ⟨hx.symm, hb⟩, hx]
          · rw [if_neg hx, if_neg (fun z => hx z.1.symm)]
        · rw [if_neg hb, if_neg (fun z => hb z.2)]
          rfl
      · have hb : rd_byte b (some (f, e :: l :: ls)) = 0 := if_neg hfe
        rw [hb, if_neg (show ¬ (e = f + 1 ∧ b f = 255) by omega), if_neg (show ¬ (0 = 255) by decide)]
        rfl
  · have ho : rd_open b 1 (some (i, l :: ls)) = none := by unfold rd_open; simp only [if_neg hl]
    have ht : (rd_tru b (some (i, l :: ls))).1 = none := by unfold rd_tru; simp only [if_pos hc, if_neg hl]
    rw [ho, ht]
    rfl
end
section
/-! the shape of names, lists of names, extensions and certificates -/
def xk_nm (p : Nat) : Prop := xw_K p = (0, 3, 2) ∧ xw_K (p + 1) = (2, 1, 4) ∧ xw_lk p 0 = some (p + 1) ∧ 6 ≤ p ∧ p + 1 < 276
def xk_ex (p : Nat) : Prop := xw_K p = (0, 5, 4) ∧ xw_K (p + 1) = (1, 0, 20) ∧ xw_lk p 2 = some (p + 1) ∧ 6 ≤ p ∧ p + 1 < 276
def xk_nl (p : Nat) : Prop := xw_K p = (0, 4, 2) ∧ xw_K (p + 1) = (3, 3, 3) ∧ xw_lk p 0 = some (p + 1) ∧ (∀ k, k < 3 → xw_lk (p + 1) k = some (p + 2 + 2 * k) ∧ xk_nm (p + 2 + 2 * k)) ∧ 6 ≤ p ∧ p + 7 < 276
def xk_ct (c : Nat) : Prop := xw_K c = (0, 6, 16) ∧ (xw_lk c 1 = some (c + 1) ∧ xk_nm (c + 1)) ∧ (xw_lk c 4 = some (c + 3) ∧ xk_nm (c + 3)) ∧ (xw_lk c 9 = some (c + 5) ∧ xw_K (c + 5) = (3, 4, 4) ∧ ∀ k, k < 4 → xw_lk (c + 5) k = some (c + 6 + 2 * k) ∧ xk_ex (c + 6 + 2 * k)) ∧ (xw_lk c 14 = some (c + 14) ∧ xk_nl (c + 14)) ∧ (xw_lk c 15 = some (c + 22) ∧ xk_nl (c + 22)) ∧ 6 ≤ c ∧ c + 29 < 276
theorem xk_K {i j : Nat} (hi : i < 9) (hj : j < 30) : xw_K (6 + 30 * i + j) = xw_Kc j := by
  unfold xw_K
  rw [if_neg (by omega), if_pos (by omega), show (6 + 30 * i + j - 6) % 30 = j by omega]
theorem xk_lk {i j : Nat} (hi : i < 9) (hj : j < 30) (k : Nat) : xw_lk (6 + 30 * i + j) k = xw_lc (6 + 30 * i + j) j k := by
  unfold xw_lk
  rw [if_neg (by omega), if_pos (by omega), show (6 + 30 * i + j - 6) % 30 = j by omega]
theorem xk_nm' {i j : Nat} (hi : i < 9) (hj : j + 1 < 30) (h1 : xw_Kc j = (0, 3, 2)) (h2 : xw_Kc (j + 1) = (2, 1, 4)) (h3 : ∀ q, xw_lc q j 0 = some (q + 1)) : xk_nm (6 + 30 * i + j) :=
  ⟨(xk_K hi (by omega)).trans h1, (xk_K (j := j + 1) hi hj).trans h2, (xk_lk hi (by omega) 0).trans (h3 _), by omega, by omega⟩
theorem xk_ex' {i j : Nat} (hi : i < 9) (hj : j + 1 < 30) (h1 : xw_Kc j = (0, 5, 4)) (h2 : xw_Kc (j + 1) = (1, 0, 20)) (h3 : ∀ q, xw_lc q j 2 = some (q + 1)) : xk_ex (6 + 30 * i + j) :=
  ⟨(xk_K hi (by omega)).trans h1, (xk_K (j := j + 1) hi hj).trans h2, (xk_lk hi (by omega) 2).trans (h3 _), by omega, by omega⟩
theorem xk_nl' {i j : Nat} (hi : i < 9) (hj : j + 7 < 30) (h1 : xw_Kc j = (0, 4, 2)) (h2 : xw_Kc (j + 1) = (3, 3, 3)) (h3 : ∀ q, xw_lc q j 0 = some (q + 1)) (h4 : ∀ q k, k < 3 → xw_lc q (j + 1) k = some (q + 1 + 2 * k))
    (h5 : ∀ k, k < 3 → xw_Kc (j + 2 + 2 * k) = (0, 3, 2) ∧ xw_Kc (j + 2 + 2 * k + 1) = (2, 1, 4) ∧ ∀ q, xw_lc q (j + 2 + 2 * k) 0 = some (q + 1)) : xk_nl (6 + 30 * i + j) := by
  refine ⟨(xk_K hi (by omega)).trans h1, (xk_K (j := j + 1) hi (by omega)).trans h2, (xk_lk hi (by omega) 0).trans (h3 _), fun k hk => ⟨?_, ?_⟩, by omega, by omega⟩
  · rw [show 6 + 30 * i + j + 1 = 6 + 30 * i + (j + 1) by omega, xk_lk hi (by omega), h4 _ _ hk]
    congr 1
  · obtain ⟨a, b, c⟩ := h5 k hk
    have := xk_nm' (i := i) (j := j + 2 + 2 * k) hi (by omega) a b c
    rw [show 6 + 30 * i + j + 2 + 2 * k = 6 + 30 * i + (j + 2 + 2 * k) by omega]
    exact this
theorem xk_k3 {P : Nat → Prop} (h0 : P 0) (h1 : P 1) (h2 : P 2) : ∀ k, k < 3 → P k := by
  intro k hk
  rcases (show k = 0 ∨ k = 1 ∨ k = 2 by omega) with rfl | rfl | rfl
  · exact h0
  · exact h1
  · exact h2
theorem xk_cert {i : Nat} (hi : i < 9) : xk_ct (6 + 30 * i) := by
  refine ⟨xk_K (j := 0) hi (by decide), ⟨xk_lk (j := 0) hi (by decide) 1, xk_nm' (j := 1) hi (by decide) rfl rfl (fun _ => rfl)⟩, ⟨xk_lk (j := 0) hi (by decide) 4, xk_nm' (j := 3) hi (by decide) rfl rfl (fun _ => rfl)⟩, ⟨xk_lk (j := 0) hi (by decide) 9, xk_K (j := 5) hi (by decide), fun k hk => ⟨?_, ?_⟩⟩, ⟨xk_lk (j := 0) hi (by decide) 14, ?_⟩, ⟨xk_lk (j := 0) hi (by decide) 15, ?_⟩, by omega, by omega⟩
  · rw [xk_lk (j := 5) hi (by decide) k]
    show (if k < 4 then some (6 + 30 * i + 5 + 1 + 2 * k) else none) = _
    rw [if_pos hk]
  · rcases (show k = 0 ∨ k = 1 ∨ k = 2 ∨ k = 3 by omega) with rfl | rfl | rfl | rfl
    · exact xk_ex' (j := 6) hi (by decide) rfl rfl (fun _ => rfl)
    · exact xk_ex' (j := 8) hi (by decide) rfl rfl (fun _ => rfl)
    · exact xk_ex' (j := 10) hi (by decide) rfl rfl (fun _ => rfl)
    · exact xk_ex' (j := 12) hi (by decide) rfl rfl (fun _ => rfl)
  · refine xk_nl' (j := 14) hi (by decide) rfl rfl (fun _ => rfl) (fun q k hk => ?_) (xk_k3 ⟨rfl, rfl, fun _ => rfl⟩ ⟨rfl, rfl, fun _ => rfl⟩ ⟨rfl, rfl, fun _ => rfl⟩)
    show (if k < 3 then some (q + 1 + 2 * k) else none) = _
    rw [if_pos hk]
  · refine xk_nl' (j := 22) hi (by decide) rfl rfl (fun _ => rfl) (fun q k hk => ?_) (xk_k3 ⟨rfl, rfl, fun _ => rfl⟩ ⟨rfl, rfl, fun _ => rfl⟩ ⟨rfl, rfl, fun _ => rfl⟩)
    show (if k < 3 then some (q + 1 + 2 * k) else none) = _
    rw [if_pos hk]
theorem xk_N {p : Nat} (h : p < 276) : p < xw_N := Nat.lt_trans h (by decide)
/-- the reader does not see what is written elsewhere -/
theorem rd_I.cg {M M' : xm_M} (h : ∀ q, q < 6 → M' q = M q) (hI : rd_I M) : rd_I M' := by
  unfold rd_I at *
  rw [h 1 (by decide), h 2 (by decide), h 3 (by decide), h 4 (by decide)]
  exact hI
theorem rd_of_cg {M M' : xm_M} (h : ∀ q, q < 6 → M' q = M q) : rd_of M' = rd_of M := by
  unfold rd_of
  rw [h 1 (by decide), h 4 (by decide)]
theorem rd_at_le {M : xm_M} {i l : Nat} {ls : List Nat} (hI : rd_I M) (h : rd_of M = some (i, l :: ls)) : i ≤ l ∧ l ≤ M 2 1 := by
  by_cases hs : M 1 4 = 1
  · obtain ⟨ls', hl, hr, hm⟩ := rd_of1 hs
    rw [hr] at h
    simp only [Option.some.injEq, Prod.mk.injEq, List.cons.injEq] at h
    have h7 := (hI.2.2.2.2.2.2 hs).1
    have h6 := hI.2.2.2.2.2.1 (M 1 2) (Nat.le_refl _)
    omega
  · rw [rd_of0 (by have := hI.2.2.2.2.1; omega)] at h
    cases h
/-- how deep the reader may still go -/
def rd_D (k : Nat) (s : rd_S) : Prop := ∀ i l ls, s = some (i, l :: ls) → ls.length + k ≤ 10
/-- a part of the encoding, where the reader stands -/
def rd_run {α : Type} (P : Nat → Nat → Option (α × Nat)) : rd_S → Option (α × Nat × List Nat)
  | some (i, l :: ls) => match P i l with
    | some (v, j) => some (v, j, l :: ls)
    | none => none
  | _ => none
end
section
/-! names: labels as numbers, eight bits a letter -/
def nm_pk (l : List Nat) : Nat := l.foldl (fun a x => a * 256 + x) 0
theorem nm_pk_app (l : List Nat) (x : Nat) : nm_pk (l ++ [x]) = nm_pk l * 256 + x := by
  simp [nm_pk, List.foldl_append]
theorem ps_sl_succ (b : Nat → Nat) (g t : Nat) : ps_sl b g (g + (t + 1)) = ps_sl b g (g + t) ++ [b (g + t)] := by
  unfold ps_sl
  rw [show g + (t + 1) - g = t + 1 by omega, show g + t - g = t by omega, List.range_succ, List.map_append]
  rfl
theorem ps_sl_0 (b : Nat → Nat) (g : Nat) : ps_sl b g (g + 0) = [] := by
  unfold ps_sl
  rw [show g + 0 - g = 0 by omega]
  rfl
theorem ps_sl_len (b : Nat → Nat) (g h : Nat) : (ps_sl b g h).length = h - g := by
  simp [ps_sl]
theorem ps_abc_app (l : List Nat) (x : Nat) : ps_abc (l ++ [x]) = (ps_abc l && (decide (97 ≤ x) && decide (x ≤ 122))) := by
  simp [ps_abc, List.all_append]
theorem ps_abc_mem {l : List Nat} (h : ps_abc l = true) {x : Nat} (hx : x ∈ l) : 97 ≤ x ∧ x ≤ 122 := by
  have := List.all_eq_true.mp h x hx
  simpa using this
theorem ps_sl_mem {b : Nat → Nat} {g h j : Nat} (h1 : g ≤ j) (h2 : j < h) : b j ∈ ps_sl b g h := by
  unfold ps_sl
  refine List.mem_map.mpr ⟨j - g, List.mem_range.mpr (by omega), ?_⟩
  rw [show g + (j - g) = j by omega]
/-- within a label, t letters being read -/
def nm_J (b : Nat → Nat) (i e : Nat) (L : List Nat) (s : rd_S) (v t : Nat) : Prop :=
  (s = none ∧ ps_label b i e = none) ∨ ∃ g h, ps_hd b 19 i e = some (g, h) ∧ g + t ≤ h ∧ ps_abc (ps_sl b g (g + t)) = true ∧ s = some (g + t, h :: e :: L) ∧ v = nm_pk (ps_sl b g (g + t))
theorem nm_J0 {b : Nat → Nat} {i e : Nat} {L : List Nat} (hL : L.length < 10) : nm_J b i e L (rd_open b 19 (some (i, e :: L))) 0 0 := by
  cases hh : ps_hd b 19 i e with
  | none =>
    refine Or.inl ⟨?_, ?_⟩
    · unfold rd_open
      simp only [if_pos hL, hh]
    · unfold ps_label
      rw [hh]
  | some q =>
    obtain ⟨g, h⟩ := q
    obtain ⟨-, -, g3, -⟩ := ps_hd_some hh
    refine Or.inr ⟨g, h, hh, g3, ?_, ?_, ?_⟩
    · rw [ps_sl_0]
      rfl
    · unfold rd_open
      simp only [if_pos hL, hh]
      rfl
    · rw [ps_sl_0]
      rfl
theorem nm_J1 {b : Nat → Nat} {i e v t : Nat} {L : List Nat} {s : rd_S} (h : nm_J b i e L s v t) (hr : 0 < rd_rem s) (hw : 97 ≤ rd_byte b s ∧ rd_byte b s ≤ 122) : nm_J b i e L (rd_next s) (v * 256 + rd_byte b s) (t + 1) := by
  rcases h with ⟨rfl, h⟩ | ⟨g, h, h1, h2, h3, rfl, rfl⟩
  · exact absurd hr (by simp [rd_rem])
  · simp only [rd_rem] at hr
    have hlt : g + t < h := by omega
    have hb : rd_byte b (some (g + t, h :: e :: L)) = b (g + t) := if_pos hlt
    rw [hb] at hw ⊢
    refine Or.inr ⟨g, h, h1, by omega, ?_, ?_, ?_⟩
    · rw [ps_sl_succ, ps_abc_app, h3]
      simp [hw.1, hw.2]
    · unfold rd_next
      simp only [if_pos hlt]
      rfl
    · rw [ps_sl_succ, nm_pk_app]
theorem nm_J2 {b : Nat → Nat} {i e v t w : Nat} {L : List Nat} {s : rd_S} (h : nm_J b i e L s v t) (hr : 0 < rd_rem s) (hw : ¬ (97 ≤ rd_byte b s ∧ rd_byte b s ≤ 122)) : nm_J b i e L none w (t + 1) := by
  rcases h with ⟨rfl, h⟩ | ⟨g, h, h1, h2, h3, rfl, rfl⟩
  · exact absurd hr (by simp [rd_rem])
  · simp only [rd_rem] at hr
    have hlt : g + t < h := by omega
    have hb : rd_byte b (some (g + t, h :: e :: L)) = b (g + t) := if_pos hlt
    rw [hb] at hw
    refine Or.inl ⟨rfl, ?_⟩
    unfold ps_label
    rw [h1]
    simp only []
    rw [if_neg]
    intro z
    exact hw (ps_abc_mem z.2.2 (ps_sl_mem (by omega) hlt))
theorem nm_pk_pos {l : List Nat} (h : ps_abc l = true) (hl : nm_pk l = 0) : l = [] := by
  rcases List.eq_nil_or_concat l with h0 | ⟨l', x, rfl⟩
  · exact h0
  · rw [List.concat_eq_append] at h hl
    rw [nm_pk_app] at hl
    have := ps_abc_mem h (List.mem_concat_self)
    omega
/-- behind a label: the letters are through -/
theorem nm_J3 {b : Nat → Nat} {i e v t : Nat} {L : List Nat} {s s' : rd_S} (h : nm_J b i e L s v t) (hx : 8 ≤ t ∨ rd_rem s = 0) (ht : t ≤ 8) (hs : s' = if v = 0 then none else s) :
    (rd_close s' = none ∧ ps_label b i e = none) ∨ ∃ x j, ps_label b i e = some (x, j) ∧ rd_close s' = some (j, e :: L) ∧ v = nm_pk x := by
  rcases h with ⟨rfl, h⟩ | ⟨g, h, h1, h2, h3, rfl, rfl⟩
  · refine Or.inl ⟨?_, h⟩
    rw [hs]
    split <;> rfl
  · simp only [rd_rem] at hx
    by_cases hv : nm_pk (ps_sl b g (g + t)) = 0
    · rw [if_pos hv] at hs
      have hl := nm_pk_pos h3 hv
      have hl := congrArg List.length hl
      rw [ps_sl_len] at hl
      simp only [List.length_nil] at hl
      refine Or.inl ⟨by rw [hs]; rfl, ?_⟩
      unfold ps_label
      rw [h1]
      simp only []
      rw [if_neg (by omega)]
    · rw [if_neg hv] at hs
      have h0 : t ≠ 0 := by
        intro h0
        rw [h0, ps_sl_0] at hv
        exact hv rfl
      rw [hs]
      unfold rd_close
      simp only []
      by_cases he : g + t = h
      · rw [if_pos he]
        rw [he] at h3 ⊢
        refine Or.inr ⟨ps_sl b g h, h, ?_, rfl, rfl⟩
        unfold ps_label
        rw [h1]
        simp only []
        rw [if_pos ⟨by omega, by omega, h3⟩]
      · rw [if_neg he]
        refine Or.inl ⟨rfl, ?_⟩
        unfold ps_label
        rw [h1]
        simp only []
        rw [if_neg (by omega)]
/-- within a name, k labels being read; f: the labels as they are held -/
def nm_O (b : Nat → Nat) (X : Option (ps_N × Nat × List Nat)) (f : Nat → Nat) (s : rd_S) (k : Nat) : Prop :=
  (s = none ∧ X = none) ∨ ∃ i e m L pre, s = some (i, e :: m :: L) ∧ L.length + 2 ≤ 10 ∧ pre.length = k ∧ (∀ m, m < k → f m = nm_pk (pre.getD m [])) ∧ X = (match ps_labels b e (4 - k) i with
    | some r => some (pre ++ r, e, m :: L)
    | none => none)
theorem nm_O0 {b f : Nat → Nat} {st : rd_S} (hd : rd_D 2 st) : nm_O b (rd_run (ps_name b) st) f (rd_open b 48 st) 0 := by
  rcases st with _ | ⟨i, _ | ⟨l, ls⟩⟩
  · exact Or.inl ⟨rfl, rfl⟩
  · exact Or.inl ⟨rfl, rfl⟩
  · have hl := hd i l ls rfl
    have hl' : ls.length < 10 := by omega
    cases hh : ps_hd b 48 i l with
    | none =>
      refine Or.inl ⟨?_, ?_⟩
      · unfold rd_open
        simp only [if_pos hl', hh]
      · simp only [rd_run, ps_name, hh]
    | some q =>
      obtain ⟨g, e⟩ := q
      refine Or.inr ⟨g, e, l, ls, [], ?_, hl, rfl, fun m hm => absurd hm (Nat.not_lt_zero _), ?_⟩
      · unfold rd_open
        simp only [if_pos hl', hh]
      · simp only [rd_run, ps_name, hh]
        cases ps_labels b e 4 g <;> rfl
theorem nm_O1 {b f f' : Nat → Nat} {X : Option (ps_N × Nat × List Nat)} {i e m k v : Nat} {L : List Nat} {pre : ps_N} {s' : rd_S} (hL : L.length + 2 ≤ 10) (hp : pre.length = k) (hf : ∀ m, m < k → f m = nm_pk (pre.getD m []))
    (hX : X = (match ps_labels b e (4 - k) i with
    | some r => some (pre ++ r, e, m :: L)
    | none => none)) (hk : k < 4) (hi : i < e) (hf' : ∀ m, m < k + 1 → f' m = if m = k then v else f m)
    (h : (s' = none ∧ ps_label b i e = none) ∨ ∃ x j, ps_label b i e = some (x, j) ∧ s' = some (j, e :: m :: L) ∧ v = nm_pk x) : nm_O b X f' s' (k + 1) := by
  have e4 : 4 - k = (4 - (k + 1)) + 1 := by omega
  rw [e4] at hX
  unfold ps_labels at hX
  rw [if_neg (by omega)] at hX
  rcases h with ⟨rfl, h⟩ | ⟨x, j, h, rfl, rfl⟩
  · rw [h] at hX
    exact Or.inl ⟨rfl, hX⟩
  · rw [h] at hX
    simp only [] at hX
    refine Or.inr ⟨j, e, m, L, pre ++ [x], rfl, hL, by simp [hp], fun q hq => ?_, ?_⟩
    · rw [hf' q hq]
      by_cases hqk : q = k
      · rw [if_pos hqk, hqk, ← hp]
        simp
      · rw [if_neg hqk, hf q (by omega)]
        congr 1
        simp only [List.getD_eq_getElem?_getD]
        rw [List.getElem?_append_left (by omega)]
    · rw [hX]
      cases ps_labels b e (4 - (k + 1)) j with
      | none => rfl
      | some r => simp
theorem nm_O2 {b f : Nat → Nat} {X : Option (ps_N × Nat × List Nat)} {s : rd_S} {k : Nat} (h : nm_O b X f s k) (hx : 4 ≤ k ∨ rd_rem s = 0) (hk : k ≤ 4) (hle : ∀ i l ls, s = some (i, l :: ls) → i ≤ l) :
    (rd_close s = none ∧ X = none) ∨ ∃ x j, X = some (x, j) ∧ rd_close s = some j ∧ x.length = k ∧ ∀ m, m < k → f m = nm_pk (x.getD m []) := by
  rcases h with ⟨rfl, h⟩ | ⟨i, e, m, L, pre, rfl, hL, hp, hf, hX⟩
  · exact Or.inl ⟨rfl, h⟩
  · simp only [rd_rem] at hx
    have hle := hle i e (m :: L) rfl
    unfold rd_close
    simp only []
    by_cases he : i = e
    · have : ps_labels b e (4 - k) i = some [] := by
        unfold ps_labels
        split <;> rw [if_pos he]
      rw [this] at hX
      simp only [List.append_nil] at hX
      rw [if_pos he, he]
      exact Or.inr ⟨pre, _, hX, rfl, hp, hf⟩
    · have h4 : k = 4 := by omega
      rw [h4] at hX
      simp only [Nat.sub_self, ps_labels, if_neg he] at hX
      rw [if_neg he]
      exact Or.inl ⟨rfl, hX⟩
/-- a name's cells hold these labels -/
def nm_is (M : xm_M) (p : Nat) (x : ps_N) : Prop := M p 1 = x.length ∧ ∀ m, m < x.length → M (p + 1) m = nm_pk (x.getD m [])
/-- only the reader's cells and those of the name at p are other ones -/
def nm_F (p : Nat) (M M' : xm_M) : Prop := ∀ q, q ≠ 1 → q ≠ 4 → q ≠ p → q ≠ p + 1 → M' q = M q
theorem nm_F.tr {p : Nat} {A B C : xm_M} (h : nm_F p A B) (g : nm_F p B C) : nm_F p A C := fun q h1 h2 h3 h4 => (g q h1 h2 h3 h4).trans (h q h1 h2 h3 h4)
theorem nm_F.of {p : Nat} {A B : xm_M} (h : rd_F A B) : nm_F p A B := fun q h1 h2 _ _ => h q h1 h2
end
section
/-! lists of names -/
def nl_is (M : xm_M) (p : Nat) (x : List ps_N) : Prop := M p 1 = x.length ∧ ∀ k, k < x.length → nm_is M (p + 2 + 2 * k) (x.getD k [])
/-- only the reader's cells and those of the list at p are other ones -/
def nl_F (p : Nat) (M M' : xm_M) : Prop := ∀ q, q ≠ 1 → q ≠ 4 → (q < p ∨ p + 8 ≤ q) → M' q = M q
theorem nl_F.tr {p : Nat} {A B C : xm_M} (h : nl_F p A B) (g : nl_F p B C) : nl_F p A C := fun q h1 h2 h3 => (g q h1 h2 h3).trans (h q h1 h2 h3)
theorem nl_F.of {p : Nat} {A B : xm_M} (h : rd_F A B) : nl_F p A B := fun q h1 h2 _ => h q h1 h2
/-- what is left of a list at place i, a name being next; pre: those before it -/
def nl_X (b : Nat → Nat) (i e k : Nat) (L : List Nat) (pre : List ps_N) : Option (List ps_N × Nat × List Nat) := match ps_name b i e with
  | some (x, j) => (match ps_names b e (2 - k) j with
    | some r => some (pre ++ x :: r, e, L)
    | none => none)
  | none => none
/-- within a list, a name being next -/
def nl_O (b : Nat → Nat) (X : Option (List ps_N × Nat × List Nat)) (M : xm_M) (p : Nat) (s : rd_S) (k : Nat) : Prop :=
  (s = none ∧ X = none) ∨ ∃ i e m L pre, s = some (i, e :: m :: L) ∧ L.length + 3 ≤ 10 ∧ pre.length = k ∧ (∀ q, q < k → nm_is M (p + 2 + 2 * q) (pre.getD q [])) ∧ X = nl_X b i e k (m :: L) pre
/-- within a list, behind a name -/
def nl_P (b : Nat → Nat) (X : Option (List ps_N × Nat × List Nat)) (M : xm_M) (p : Nat) (s : rd_S) (k : Nat) : Prop :=
  (s = none ∧ X = none) ∨ ∃ j e m L pre, s = some (j, e :: m :: L) ∧ L.length + 3 ≤ 10 ∧ pre.length = k ∧ (∀ q, q < k → nm_is M (p + 2 + 2 * q) (pre.getD q [])) ∧ X = (match ps_names b e (3 - k) j with
    | some r => some (pre ++ r, e, m :: L)
    | none => none)
theorem ps_hd_end {b : Nat → Nat} {tag e : Nat} : ps_hd b tag e e = none := by
  unfold ps_hd
  rw [if_neg (by omega)]
theorem nl_O0 {b : Nat → Nat} {M : xm_M} {p tag : Nat} {st : rd_S} (hd : rd_D 3 st) (h : rd_is b tag st = true) : nl_O b (rd_run (ps_list b tag) st) M p (rd_open b tag st) 0 := by
  obtain ⟨i, l, ls, rfl, h1, h2⟩ := rd_isP h
  have hl := hd i l ls rfl
  have hl' : ls.length < 10 := by omega
  have hc : i < l ∧ b i = tag := ⟨h1, h2⟩
  cases hh : ps_hd b tag i l with
  | none =>
    refine Or.inl ⟨?_, ?_⟩
    · unfold rd_open
      simp only [if_pos hl', hh]
    · simp only [rd_run, ps_list, if_pos hc, hh]
  | some q =>
    obtain ⟨g, e⟩ := q
    refine Or.inr ⟨g, e, l, ls, [], ?_, hl, rfl, fun q hq => absurd hq (Nat.not_lt_zero _), ?_⟩
    · unfold rd_open
      simp only [if_pos hl', hh]
    · simp only [rd_run, ps_list, if_pos hc, hh, nl_X]
      by_cases hge : g = e
      · rw [if_pos hge, hge]
        have : ps_name b e e = none := by unfold ps_name; rw [ps_hd_end]
        rw [this]
      · rw [if_neg hge]
        have h3 : ps_names b e 3 g = (match ps_name b g e with
          | none => none
          | some (x, j) => match ps_names b e 2 j with
            | none => none
            | some l => some (x :: l)) := if_neg hge
        rw [h3]
        cases ps_name b g e with
        | none => rfl
        | some q =>
          obtain ⟨x, j⟩ := q
          simp only []
          cases ps_names b e 2 j <;> rfl
theorem nl_O1 {b : Nat → Nat} {X : Option (List ps_N × Nat × List Nat)} {M M' : xm_M} {p k : Nat} {s s' : rd_S} (h : nl_O b X M p s k) (hk : k ≤ 2) (hM : ∀ q, q < k → M' (p + 2 + 2 * q) = M (p + 2 + 2 * q) ∧ M' (p + 2 + 2 * q + 1) = M (p + 2 + 2 * q + 1))
    (hn : (s' = none ∧ rd_run (ps_name b) s = none) ∨ ∃ x t, rd_run (ps_name b) s = some (x, t) ∧ s' = some t ∧ nm_is M' (p + 2 + 2 * k) x) : nl_P b X M' p s' (k + 1) := by
  rcases h with ⟨rfl, h⟩ | ⟨i, e, m, L, pre, rfl, hL, hp, hf, hX⟩
  · rcases hn with ⟨h1, -⟩ | ⟨x, t, h1, -⟩
    · exact Or.inl ⟨h1, h⟩
    · cases h1
  · simp only [rd_run] at hn
    unfold nl_X at hX
    cases hh : ps_name b i e with
    | none =>
      rw [hh] at hn hX
      rcases hn with ⟨h1, -⟩ | ⟨x, t, h1, -⟩
      · exact Or.inl ⟨h1, hX⟩
      · cases h1
    | some q =>
      obtain ⟨x, j⟩ := q
      rw [hh] at hn hX
      simp only [] at hn hX
      rcases hn with ⟨-, h1⟩ | ⟨x', t, h1, h2, h3⟩
      · cases h1
      · simp only [Option.some.injEq, Prod.mk.injEq] at h1
        obtain ⟨rfl, rfl⟩ := h1
        refine Or.inr ⟨j, e, m, L, pre ++ [x], h2, hL, by simp [hp], fun q hq => ?_, ?_⟩
        · by_cases hqk : q = k
          · rw [hqk]
            have : (pre ++ [x]).getD k [] = x := by
              rw [← hp]
              simp
            rw [this]
            exact h3
          · have h9 := hf q (by omega)
            have : (pre ++ [x]).getD q [] = pre.getD q [] := by
              simp only [List.getD_eq_getElem?_getD]
              rw [List.getElem?_append_left (by omega)]
            rw [this]
            obtain ⟨e1, e2⟩ := hM q (by omega)
            unfold nm_is at h9 ⊢
            rw [e1, e2]
            exact h9
        · rw [hX, show 3 - (k + 1) = 2 - k by omega]
          cases ps_names b e (2 - k) j with
          | none => rfl
          | some r => simp
theorem nl_P1 {b : Nat → Nat} {X : Option (List ps_N × Nat × List Nat)} {M : xm_M} {p k : Nat} {s : rd_S} (h : nl_P b X M p s k) (hk : k < 3) (hr : 0 < rd_rem s) : nl_O b X M p s k := by
  rcases h with ⟨rfl, h⟩ | ⟨i, e, m, L, pre, rfl, hL, hp, hf, hX⟩
  · exact Or.inl ⟨rfl, h⟩
  · simp only [rd_rem] at hr
    refine Or.inr ⟨i, e, m, L, pre, rfl, hL, hp, hf, ?_⟩
    rw [hX, show 3 - k = (2 - k) + 1 by omega]
    unfold ps_names nl_X
    rw [if_neg (by omega)]
    cases ps_name b i e with
    | none => rfl
    | some q =>
      obtain ⟨x, j⟩ := q
      simp only []
      cases ps_names b e (2 - k) j <;> rfl
theorem nl_P2 {b : Nat → Nat} {X : Option (List ps_N × Nat × List Nat)} {M : xm_M} {p k : Nat} {s : rd_S} (h : nl_P b X M p s k) (hx : 3 ≤ k ∨ rd_rem s = 0) (hk : k ≤ 3) (hle : ∀ i l ls, s = some (i, l :: ls) → i ≤ l) :
    (rd_close s = none ∧ X = none) ∨ ∃ x j, X = some (x, j) ∧ rd_close s = some j ∧ x.length = k ∧ ∀ q, q < k → nm_is M (p + 2 + 2 * q) (x.getD q []) := by
  rcases h with ⟨rfl, h⟩ | ⟨i, e, m, L, pre, rfl, hL, hp, hf, hX⟩
  · exact Or.inl ⟨rfl, h⟩
  · simp only [rd_rem] at hx
    have hle := hle i e (m :: L) rfl
    unfold rd_close
    simp only []
    by_cases he : i = e
    · have : ps_names b e (3 - k) i = some [] := by
        unfold ps_names
        split <;> rw [if_pos he]
      rw [this] at hX
      simp only [List.append_nil] at hX
      rw [if_pos he, he]
      exact Or.inr ⟨pre, _, hX, rfl, hp, hf⟩
    · have h4 : k = 3 := by omega
      rw [h4] at hX
      simp only [Nat.sub_self, ps_names, if_neg he] at hX
      rw [if_neg he]
      exact Or.inl ⟨rfl, hX⟩
theorem nl_D {b : Nat → Nat} {X : Option (List ps_N × Nat × List Nat)} {M : xm_M} {p k : Nat} {s : rd_S} (h : nl_O b X M p s k) : rd_D 2 s := by
  rcases h with ⟨rfl, h⟩ | ⟨i, e, m, L, pre, rfl, hL, -⟩
  · intro i l ls h
    cases h
  · intro i' l' ls' h'
    simp only [Option.some.injEq, Prod.mk.injEq, List.cons.injEq] at h'
    obtain ⟨-, -, rfl⟩ := h'
    simp only [List.length_cons]
    omega
theorem nl_none {b : Nat → Nat} {tag : Nat} {st : rd_S} (h : rd_is b tag st = false) : (st = none ∧ rd_run (ps_list b tag) st = none) ∨ (∃ i, st = some (i, [])) ∨ ∃ t, st = some t ∧ rd_run (ps_list b tag) st = some ([], t) := by
  rcases st with _ | ⟨i, _ | ⟨l, ls⟩⟩
  · exact Or.inl ⟨rfl, rfl⟩
  · exact Or.inr (Or.inl ⟨i, rfl⟩)
  · refine Or.inr (Or.inr ⟨_, rfl, ?_⟩)
    simp only [rd_is] at h
    simp only [rd_run, ps_list]
    rw [if_neg]
    intro z
    simp [z.1, z.2] at h
theorem rd_of_nil {M : xm_M} {i : Nat} (h : rd_of M = some (i, [])) : False := by
  unfold rd_of at h
  split at h
  · simp only [Option.some.injEq, Prod.mk.injEq] at h
    have := congrArg List.length h.2
    rw [rd_lims_len] at this
    cases this
  · cases h
end
section
/-! how the reader's steps fit together -/
/-- the reader has gone on as X says, or has found a fault -/
def rs_ok {α : Type} (X : Option (α × Nat × List Nat)) (s : rd_S) (V : α → Prop) : Prop := (s = none ∧ X = none) ∨ ∃ x t, X = some (x, t) ∧ s = some t ∧ V x
theorem rs_ok.imp {α : Type} {X : Option (α × Nat × List Nat)} {s : rd_S} {V W : α → Prop} (h : rs_ok X s V) (f : ∀ x, V x → W x) : rs_ok X s W := by
  rcases h with h | ⟨x, t, h1, h2, h3⟩
  · exact Or.inl h
  · exact Or.inr ⟨x, t, h1, h2, f x h3⟩
theorem rs_none {α : Type} {P : Nat → Nat → Option (α × Nat)} {s : rd_S} {V : α → Prop} (h : rs_ok (rd_run P none) s V) : s = none := by
  rcases h with h | ⟨x, t, h1, -⟩
  · exact h.1
  · cases h1
theorem rs_and {α β : Type} {P : Nat → Nat → Option (α × Nat)} {Q : Nat → Nat → Option (β × Nat)} {s s1 s2 : rd_S} {V : α → Prop} {W : β → Prop} (h1 : rs_ok (rd_run P s) s1 V) (h2 : rs_ok (rd_run Q s1) s2 W) : rs_ok (rd_run (pq_and P Q) s) s2 (fun z => V z.1 ∧ W z.2) := by
  rcases h1 with ⟨rfl, hX⟩ | ⟨x, t, hX, rfl, hV⟩
  · rw [rs_none h2]
    refine Or.inl ⟨rfl, ?_⟩
    rcases s with _ | ⟨i, _ | ⟨l, ls⟩⟩
    · rfl
    · rfl
    · simp only [rd_run] at hX ⊢
      unfold pq_and
      cases hp : P i l with
      | none => rfl
      | some q => rw [hp] at hX; cases hX
  · rcases s with _ | ⟨i, _ | ⟨l, ls⟩⟩
    · cases hX
    · cases hX
    · simp only [rd_run] at hX
      cases hp : P i l with
      | none => rw [hp] at hX; cases hX
      | some q =>
        obtain ⟨x', j⟩ := q
        rw [hp] at hX
        simp only [Option.some.injEq, Prod.mk.injEq] at hX
        obtain ⟨rfl, rfl⟩ := hX
        simp only [rd_run] at h2 ⊢
        unfold pq_and
        rw [hp]
        simp only []
        cases hq : Q j l with
        | none =>
          rw [hq] at h2
          rcases h2 with h | ⟨y, u, h, -⟩
          · exact Or.inl ⟨h.1, rfl⟩
          · cases h
        | some r =>
          obtain ⟨y, k⟩ := r
          rw [hq] at h2
          rcases h2 with h | ⟨y', u, h, h', h''⟩
          · cases h.2
          · simp only [Option.some.injEq, Prod.mk.injEq] at h
            obtain ⟨rfl, rfl⟩ := h
            exact Or.inr ⟨(x', y), _, rfl, h', hV, h''⟩
theorem rs_in {α : Type} {b : Nat → Nat} {tag : Nat} {P : Nat → Nat → Option (α × Nat)} {s s2 : rd_S} {V : α → Prop} (hd : rd_D 1 s) (h : rs_ok (rd_run P (rd_open b tag s)) s2 V) : rs_ok (rd_run (pq_in b tag P) s) (rd_close s2) V := by
  rcases s with _ | ⟨i, _ | ⟨l, ls⟩⟩
  · rw [rs_none h]
    exact Or.inl ⟨rfl, rfl⟩
  · rw [rs_none h]
    exact Or.inl ⟨rfl, rfl⟩
  · have hl : ls.length < 10 := hd i l ls rfl
    simp only [rd_run]
    unfold pq_in
    cases hh : ps_hd b tag i l with
    | none =>
      have ho : rd_open b tag (some (i, l :: ls)) = none := by unfold rd_open; simp only [if_pos hl, hh]
      rw [ho] at h
      rw [rs_none h]
      exact Or.inl ⟨rfl, rfl⟩
    | some q =>
      obtain ⟨f, e⟩ := q
      have ho : rd_open b tag (some (i, l :: ls)) = some (f, e :: l :: ls) := by unfold rd_open; simp only [if_pos hl, hh]
      rw [ho] at h
      simp only [rd_run] at h
      simp only []
      cases hp : P f e with
      | none =>
        rw [hp] at h
        rcases h with h | ⟨y, u, h, -⟩
        · rw [h.1]
          exact Or.inl ⟨rfl, rfl⟩
        · cases h
      | some r =>
        obtain ⟨x, j⟩ := r
        rw [hp] at h
        rcases h with h | ⟨y, u, h, h', h''⟩
        · cases h.2
        · simp only [Option.some.injEq, Prod.mk.injEq] at h
          obtain ⟨rfl, rfl⟩ := h
          rw [h']
          unfold rd_close
          simp only []
          by_cases hj : j = e
          · rw [if_pos hj, if_pos hj, hj]
            exact Or.inr ⟨x, _, rfl, rfl, h''⟩
          · rw [if_neg hj, if_neg hj]
            exact Or.inl ⟨rfl, rfl⟩
theorem rs_int {b : Nat → Nat} {lo hi : Nat} {s s' : rd_S} {w : Nat} (hd : rd_D 1 s) (h : s' = (rd_int b lo hi s).1) (hw : (rd_int b lo hi s).1 ≠ none → w = (rd_int b lo hi s).2) : rs_ok (rd_run (ps_intr b lo hi) s) s' (fun v => v = w) := by
  rw [h]
  rcases s with _ | ⟨i, _ | ⟨l, ls⟩⟩
  · exact Or.inl ⟨rfl, rfl⟩
  · exact Or.inl ⟨rfl, rfl⟩
  · have hl : ls.length < 10 := hd i l ls rfl
    simp only [rd_run]
    unfold ps_intr
    unfold rd_int at hw ⊢
    simp only [if_pos hl] at hw ⊢
    cases hp : ps_int b i l with
    | none => exact Or.inl ⟨rfl, rfl⟩
    | some q =>
      obtain ⟨v, j⟩ := q
      rw [hp] at hw
      simp only [] at hw ⊢
      by_cases hc : lo ≤ v ∧ v ≤ hi
      · rw [if_pos hc] at hw
        rw [if_pos hc, if_pos hc]
        exact Or.inr ⟨v, _, rfl, rfl, (hw (by simp)).symm⟩
      · rw [if_neg hc, if_neg hc]
        exact Or.inl ⟨rfl, rfl⟩
theorem rs_tru {b : Nat → Nat} {s s' : rd_S} (hd : rd_D 1 s) (hs : ∀ i, s ≠ some (i, [])) (h : s' = (rd_tru b s).1) : rs_ok (rd_run (ps_tru b) s) s' (fun t => t = rd_is b 1 s) := by
  rw [h]
  rcases s with _ | ⟨i, _ | ⟨l, ls⟩⟩
  · exact Or.inl ⟨rfl, rfl⟩
  · exact absurd rfl (hs i)
  · have hl : ls.length < 10 := hd i l ls rfl
    simp only [rd_run]
    by_cases hc : i < l ∧ b i = 1
    · unfold rd_tru
      simp only [if_pos hc, if_pos hl]
      cases hp : ps_tru b i l with
      | none => exact Or.inl ⟨rfl, rfl⟩
      | some q =>
        obtain ⟨t, j⟩ := q
        refine Or.inr ⟨t, _, rfl, rfl, ?_⟩
        unfold ps_tru at hp
        rw [if_pos hc] at hp
        have ht : t = true := by
          repeat' split at hp
          all_goals first
            | (cases hp; done)
            | (simp only [Option.some.injEq, Prod.mk.injEq] at hp; exact hp.1.symm)
        rw [ht]
        simp [rd_is, hc.1, hc.2]
    · have ht : ps_tru b i l = some (false, i) := by unfold ps_tru; rw [if_neg hc]
      rw [ht]
      unfold rd_tru
      simp only [if_neg hc]
      refine Or.inr ⟨false, _, rfl, rfl, ?_⟩
      simp only [rd_is]
      by_cases h1 : i < l
      · have : ¬ b i = 1 := fun h2 => hc ⟨h1, h2⟩
        simp [this]
      · simp [h1]
theorem rd_D.mono {k j : Nat} {s : rd_S} (h : rd_D k s) (hj : j ≤ k) : rd_D j s := fun i l ls e => by have := h i l ls e; omega
theorem rd_D.none (k : Nat) : rd_D k none := fun _ _ _ h => by cases h
theorem rd_D.opn {k : Nat} {b : Nat → Nat} {tag : Nat} {s : rd_S} (h : rd_D (k + 1) s) : rd_D k (rd_open b tag s) := by
  intro i l ls e
  obtain ⟨i', e', l', ls', rfl, h1, -, h2⟩ := rd_openI e
  have := h i' l' ls' rfl
  simp only [List.cons.injEq] at h2
  rw [h2.2]
  simp only [List.length_cons]
  omega
theorem rs_D {α : Type} {P : Nat → Nat → Option (α × Nat)} {s s' : rd_S} {V : α → Prop} {k : Nat} (h : rs_ok (rd_run P s) s' V) (hd : rd_D k s) : rd_D k s' := by
  rcases h with ⟨rfl, -⟩ | ⟨x, t, hX, rfl, -⟩
  · exact rd_D.none k
  · rcases s with _ | ⟨i, _ | ⟨l, ls⟩⟩
    · cases hX
    · cases hX
    · simp only [rd_run] at hX
      cases hp : P i l with
      | none => rw [hp] at hX; cases hX
      | some q =>
        rw [hp] at hX
        simp only [Option.some.injEq, Prod.mk.injEq] at hX
        intro i' l' ls' e
        simp only [Option.some.injEq] at e
        rw [← hX.2] at e
        simp only [Prod.mk.injEq, List.cons.injEq] at e
        rw [← e.2.2]
        exact hd i l ls rfl
theorem rd_D.refuse {k : Nat} {s s' : rd_S} {c : Prop} (h : rd_D k s) (e : s' = s ∨ s' = Option.none) : rd_D k s' := by
  rcases e with rfl | rfl
  · exact h
  · exact rd_D.none k
end
section
/-! extensions: bits, octets -/
theorem xi_su : ∀ n, n < 32 → (((nI n).toUInt32 &&& Int32.toUInt32 31).toBitVec % 32).toNat = n := by decide +kernel
theorem xi_ushr {x k : Nat} (hx : x < 4294967296) (hk : k < 32) : ((nI x).toUInt32 >>> ((nI k).toUInt32 &&& Int32.toUInt32 31)).toInt32 = nI (x / 2 ^ k) := pk_ushrN hx (nI k) k (xi_su k hk)
theorem xi_and1 {x : Nat} (hx : x < 4294967296) : nI x &&& nI 1 = nI (x % 2) := pk_andN hx (m := nI 1) 1 (by decide)
theorem xi_and255 {x : Nat} (hx : x < 4294967296) : nI x &&& nI 255 = nI (x % 256) := pk_andN hx (m := nI 255) 8 (by decide)
theorem xi_shl1 (v : Nat) : nI v <<< ((nI 1) &&& 31) = nI (v * 2) := by
  apply xi_ext
  rw [pk_shl _ _ 1 (by decide), xi_tn, xi_tn]
  omega
set_option maxRecDepth 100000 in
theorem xi_or1 {v b : Nat} (hb : b < 2) : nI (v * 2) ||| nI b = nI (v * 2 + b) := by
  apply xi_ext
  show ((nI (v * 2)).toBitVec ||| (nI b).toBitVec).toNat = _
  rw [BitVec.toNat_or, xi_tn, xi_tn, xi_tn]
  have h1 : v * 2 % 4294967296 = 2 ^ 1 * (v % 2147483648) := by omega
  have h2 : (v * 2 + b) % 4294967296 = 2 ^ 1 * (v % 2147483648) + b := by omega
  have h3 : b % 4294967296 = b := by omega
  rw [h1, h2, h3]
  exact (Nat.two_pow_add_eq_or_of_lt hb _).symm
theorem ps_mir_lt (x : Nat) : ∀ n, ps_mir x n < 2 ^ n
  | 0 => by simp [ps_mir]
  | n + 1 => by
    have := ps_mir_lt x n
    unfold ps_mir
    rw [Nat.pow_succ]
    omega
theorem ps_tz_lt (x : Nat) : ∀ n k, ps_tz x n k ≤ n + k
  | 0, k => by simp [ps_tz]
  | n + 1, k => by
    unfold ps_tz
    split
    · have := ps_tz_lt x n (k + 1)
      omega
    · omega
/-- the rest of the octets -/
def rd_oct : rd_S → rd_S
  | some (i, l :: ls) => if l - i ≤ 20 then some (l, l :: ls) else none
  | _ => none
def ex_J (b : Nat → Nat) (st : rd_S) (f : Nat → Nat) (s : rd_S) (N k : Nat) : Prop :=
  (s = none ∧ N = 0 ∧ rd_oct st = none) ∨ ∃ i l ls, st = some (i, l :: ls) ∧ i ≤ l ∧ l - i ≤ 20 ∧ N = l - i ∧ s = some (i + k, l :: ls) ∧ ∀ j, j < k → f j = b (i + j)
/-- only the reader's cells, and those of the extension at p but for number and critical, are other ones -/
def ex_F (p : Nat) (M M' : xm_M) : Prop := (∀ q, q ≠ 1 → q ≠ 4 → q ≠ p → q ≠ p + 1 → M' q = M q) ∧ M' p 0 = M p 0 ∧ M' p 1 = M p 1
theorem ex_J0 {b f : Nat → Nat} {M : xm_M} (hI : rd_I M) (h : rd_rem (rd_of M) ≤ 20) : ex_J b (rd_of M) f (rd_of M) (rd_rem (rd_of M)) 0 := by
  rcases hs : rd_of M with _ | ⟨i, _ | ⟨l, ls⟩⟩
  · exact Or.inl ⟨rfl, rfl, rfl⟩
  · exact (rd_of_nil hs).elim
  · have hle := (rd_at_le hI hs).1
    rw [hs] at h
    exact Or.inr ⟨i, l, ls, rfl, hle, h, rfl, rfl, fun j hj => absurd hj (Nat.not_lt_zero _)⟩
theorem ex_J1 {b f f' : Nat → Nat} {st s : rd_S} {N k : Nat} (h : ex_J b st f s N k) (hk : k < N) (hf : ∀ j, j < k + 1 → f' j = if j = k then rd_byte b s else f j) : ex_J b st f' (rd_next s) N (k + 1) := by
  rcases h with ⟨-, rfl, -⟩ | ⟨i, l, ls, rfl, h1, h2, h3, rfl, h4⟩
  · omega
  · have hlt : i + k < l := by omega
    refine Or.inr ⟨i, l, ls, rfl, h1, h2, h3, if_pos hlt, fun j hj => ?_⟩
    rw [hf j hj]
    by_cases hjk : j = k
    · rw [if_pos hjk, hjk]
      exact if_pos hlt
    · rw [if_neg hjk]
      exact h4 j (by omega)
theorem rs_tr {α : Type} {X : Option (α × Nat × List Nat)} {s : rd_S} {V : α → Prop} (h : (s = none ∧ X = none) ∨ ∃ x t, X = some (x, t) ∧ s = some t ∧ V x) : rs_ok X s V := h
theorem rs_bas1 {b : Nat → Nat} {s s1 : rd_S} {t : Bool} (h : rs_ok (rd_run (ps_tru b) s) s1 (fun x => x = t)) (hc : t = true → rd_rem s1 = 0) : rs_ok (rd_run (ps_bas b) s) s1 (fun z => z = (t, none)) := by
  rcases s with _ | ⟨i, _ | ⟨l, ls⟩⟩
  · rw [rs_none h]
    exact Or.inl ⟨rfl, rfl⟩
  · rw [rs_none (P := ps_tru b) h]
    exact Or.inl ⟨rfl, rfl⟩
  · simp only [rd_run] at h ⊢
    unfold ps_bas
    cases hp : ps_tru b i l with
    | none =>
      rw [hp] at h
      rcases h with h | ⟨y, u, h, -⟩
      · exact Or.inl ⟨h.1, rfl⟩
      · cases h
    | some q =>
      obtain ⟨t', j⟩ := q
      rw [hp] at h
      rcases h with h | ⟨y, u, h, h', h''⟩
      · cases h.2
      · simp only [Option.some.injEq, Prod.mk.injEq] at h
        obtain ⟨rfl, rfl⟩ := h
        rw [h'] at hc
        simp only [rd_rem] at hc
        simp only []
        rw [if_neg]
        · exact Or.inr ⟨_, _, rfl, h', by rw [h'']⟩
        · intro z
          have := hc (by rw [← h'']; exact z.1)
          omega
theorem rs_bas2 {b : Nat → Nat} {s s1 s2 : rd_S} {w : Nat} (h : rs_ok (rd_run (ps_tru b) s) s1 (fun x => x = true)) (hr : 0 < rd_rem s1) (h2 : rs_ok (rd_run (ps_intr b 0 2147483647) s1) s2 (fun v => v = w)) : rs_ok (rd_run (ps_bas b) s) s2 (fun z => z = (true, some w)) := by
  rcases s with _ | ⟨i, _ | ⟨l, ls⟩⟩
  · rw [rs_none h] at hr
    exact absurd hr (by simp [rd_rem])
  · rw [rs_none (P := ps_tru b) h] at hr
    exact absurd hr (by simp [rd_rem])
  · simp only [rd_run] at h ⊢
    unfold ps_bas
    cases hp : ps_tru b i l with
    | none =>
      rw [hp] at h
      rcases h with h | ⟨y, u, h, -⟩
      · rw [h.1] at hr
        exact absurd hr (by simp [rd_rem])
      · cases h
    | some q =>
      obtain ⟨t', j⟩ := q
      rw [hp] at h
      rcases h with h | ⟨y, u, h, h', h''⟩
      · cases h.2
      · simp only [Option.some.injEq, Prod.mk.injEq] at h
        obtain ⟨rfl, rfl⟩ := h
        rw [h'] at hr h2
        simp only [rd_rem] at hr
        simp only [rd_run] at h2
        simp only []
        rw [if_pos ⟨h'', by omega⟩]
        cases hq : ps_intr b 0 2147483647 j l with
        | none =>
          rw [hq] at h2
          rcases h2 with h | ⟨y, u, h, -⟩
          · exact Or.inl ⟨h.1, rfl⟩
          · cases h
        | some r =>
          obtain ⟨v, k⟩ := r
          rw [hq] at h2
          rcases h2 with h | ⟨y, u, h, h3, h4⟩
          · cases h.2
          · simp only [Option.some.injEq, Prod.mk.injEq] at h
            obtain ⟨rfl, rfl⟩ := h
            exact Or.inr ⟨_, _, rfl, h3, by rw [h'', h4]⟩
theorem rs_bit {b : Nat → Nat} {s s' : rd_S} {v : Nat} (hs : ∀ i, s ≠ some (i, [])) (h0 : rd_rem (rd_next s) = 0 → v = 0 ∧ s' = if rd_byte b s = 0 then rd_next s else none)
    (h1 : 0 < rd_rem (rd_next s) → v = rd_byte b (rd_next s) ∧ s' = if rd_byte b (rd_next s) ≠ 0 ∧ rd_byte b s = ps_tz (rd_byte b (rd_next s)) 8 0 then rd_next (rd_next s) else none) : rs_ok (rd_run (ps_bit b) s) s' (fun x => x = v) := by
  rcases s with _ | ⟨i, _ | ⟨l, ls⟩⟩
  · obtain ⟨-, e⟩ := h0 rfl
    rw [e]
    refine Or.inl ⟨?_, rfl⟩
    split <;> rfl
  · exact absurd rfl (hs i)
  · simp only [rd_run]
    unfold ps_bit
    by_cases hi : i < l
    · have hn : rd_next (some (i, l :: ls)) = some (i + 1, l :: ls) := if_pos hi
      have hb : rd_byte b (some (i, l :: ls)) = b i := if_pos hi
      rw [hn, hb] at h0 h1
      simp only [rd_rem] at h0 h1
      rw [if_pos hi]
      by_cases hj : i + 1 < l
      · obtain ⟨hv, hs'⟩ := h1 (by omega)
        have hn2 : rd_next (some (i + 1, l :: ls)) = some (i + 2, l :: ls) := if_pos hj
        have hb2 : rd_byte b (some (i + 1, l :: ls)) = b (i + 1) := if_pos hj
        rw [hn2, hb2] at hs'
        rw [hb2] at hv
        rw [if_pos hj, hs']
        by_cases hc : b (i + 1) ≠ 0 ∧ b i = ps_tz (b (i + 1)) 8 0
        · rw [if_pos hc, if_pos hc]
          exact Or.inr ⟨_, _, rfl, rfl, hv.symm⟩
        · rw [if_neg hc, if_neg hc]
          exact Or.inl ⟨rfl, rfl⟩
      · obtain ⟨hv, hs'⟩ := h0 (by omega)
        rw [if_neg hj, hs']
        by_cases hc : b i = 0
        · rw [if_pos hc, if_pos hc]
          exact Or.inr ⟨_, _, rfl, rfl, hv.symm⟩
        · rw [if_neg hc, if_neg hc]
          exact Or.inl ⟨rfl, rfl⟩
    · have hn : rd_next (some (i, l :: ls)) = none := if_neg hi
      rw [hn] at h0
      obtain ⟨-, e⟩ := h0 rfl
      rw [if_neg hi, e]
      refine Or.inl ⟨?_, rfl⟩
      split <;> rfl
theorem rs_bnd {b : Nat → Nat} {s s1 s2 s' : rd_S} {V W : List ps_N → Prop} {m n : Nat} (h1 : rs_ok (rd_run (ps_list b 160) s) s1 V) (h2 : rs_ok (rd_run (ps_list b 161) s1) s2 W) (hV : ∀ x, V x → x.length = m) (hW : ∀ x, W x → x.length = n) (hs : s' = if m = 0 ∧ n = 0 then none else s2) : rs_ok (rd_run (ps_bnd b) s) s' (fun z => V z.1 ∧ W z.2) := by
  have h := rs_and h1 h2
  rcases s with _ | ⟨i, _ | ⟨l, ls⟩⟩
  · rw [hs, rs_none h]
    refine Or.inl ⟨?_, rfl⟩
    split <;> rfl
  · rw [hs, rs_none (P := pq_and (ps_list b 160) (ps_list b 161)) h]
    refine Or.inl ⟨?_, rfl⟩
    split <;> rfl
  · simp only [rd_run] at h ⊢
    unfold ps_bnd
    cases hp : pq_and (ps_list b 160) (ps_list b 161) i l with
    | none =>
      rw [hp] at h
      rcases h with h | ⟨y, u, h, -⟩
      · rw [hs, h.1]
        refine Or.inl ⟨?_, rfl⟩
        split <;> rfl
      · cases h
    | some q =>
      obtain ⟨⟨p, x⟩, j⟩ := q
      rw [hp] at h
      rcases h with h | ⟨y, u, h, h', h'', h3⟩
      · cases h.2
      · simp only [Option.some.injEq, Prod.mk.injEq] at h
        obtain ⟨rfl, rfl⟩ := h
        have e1 := hV _ h''
        have e2 := hW _ h3
        simp only [] at e1 e2 ⊢
        rw [hs]
        by_cases hc : p = [] ∧ x = []
        · rw [if_pos hc, if_pos]
          · exact Or.inl ⟨rfl, rfl⟩
          · rw [← e1, ← e2, hc.1, hc.2]
            exact ⟨rfl, rfl⟩
        · rw [if_neg hc, if_neg]
          · exact Or.inr ⟨_, _, rfl, h', h'', h3⟩
          · intro z
            rw [← e1, ← e2] at z
            exact hc ⟨List.eq_nil_of_length_eq_zero z.1, List.eq_nil_of_length_eq_zero z.2⟩
end
section
/-! what a certificate's cells hold -/
def ex_is (M : xm_M) (p : Nat) (x : Nat × Bool × List Nat) : Prop := M p 0 = x.1 ∧ M p 1 = (if x.2.1 = true then 1 else 0) ∧ (¬ (x.1 = 1 ∨ x.1 = 2 ∨ x.1 = 3) → M p 3 = x.2.2.length ∧ ∀ j, j < x.2.2.length → M (p + 1) j = x.2.2.getD j 0)
/-- none is -1 -/
def ct_o (r : Option Nat) : Nat := match r with
  | some v => v
  | none => 4294967295
def ct_u (r : Option Nat) : Nat := match r with
  | some v => ps_mir v 8
  | none => 4294967295
def ct_E (M : xm_M) (c : Nat) (E : ps_E) : Prop := (∀ j, j < E.1.length → ex_is M (c + 6 + 2 * j) (E.1.getD j (0, false, []))) ∧ M c 11 = (if E.2.1 = true then 1 else 0) ∧ M c 12 = ct_o E.2.2.1 ∧ M c 13 = ct_u E.2.2.2.1 ∧ nl_is M (c + 14) E.2.2.2.2.1 ∧ nl_is M (c + 22) E.2.2.2.2.2
/-- only the reader's cells and those of the certificate at c are other ones -/
def ct_F (c : Nat) (M M' : xm_M) : Prop := ∀ q, q ≠ 1 → q ≠ 4 → (q < c ∨ c + 30 ≤ q) → M' q = M q
theorem ct_F.tr {c : Nat} {A B C : xm_M} (h : ct_F c A B) (g : ct_F c B C) : ct_F c A C := fun q h1 h2 h3 => (g q h1 h2 h3).trans (h q h1 h2 h3)
theorem ct_F.of {c : Nat} {A B : xm_M} (h : rd_F A B) : ct_F c A B := fun q h1 h2 _ => h q h1 h2
/-- the head stays -/
def ct_S (c : Nat) (M M' : xm_M) : Prop := (∀ j, j ≠ 10 → j ≠ 11 → j ≠ 12 → j ≠ 13 → M' c j = M c j) ∧ ∀ q, c + 1 ≤ q → q ≤ c + 5 → M' q = M q
theorem ct_S.tr {c : Nat} {A B C : xm_M} (h : ct_S c A B) (g : ct_S c B C) : ct_S c A C := ⟨fun j h1 h2 h3 h4 => (g.1 j h1 h2 h3 h4).trans (h.1 j h1 h2 h3 h4), fun q h1 h2 => (g.2 q h1 h2).trans (h.2 q h1 h2)⟩
theorem rs_map {α β : Type} {P : Nat → Nat → Option (α × Nat)} {Q : Nat → Nat → Option (β × Nat)} {f : α → β} {s s' : rd_S} {V : α → Prop} (hQ : ∀ i l, Q i l = match P i l with
    | none => none
    | some (x, k) => some (f x, k)) (h : rs_ok (rd_run P s) s' V) : rs_ok (rd_run Q s) s' (fun y => ∃ x, V x ∧ y = f x) := by
  rcases s with _ | ⟨i, _ | ⟨l, ls⟩⟩
  · rw [rs_none h]
    exact Or.inl ⟨rfl, rfl⟩
  · rw [rs_none (P := P) h]
    exact Or.inl ⟨rfl, rfl⟩
  · simp only [rd_run] at h ⊢
    rw [hQ]
    cases hp : P i l with
    | none =>
      rw [hp] at h
      rcases h with h | ⟨y, u, h, -⟩
      · exact Or.inl ⟨h.1, rfl⟩
      · cases h
    | some q =>
      obtain ⟨x, j⟩ := q
      rw [hp] at h
      rcases h with h | ⟨y, u, h, h', h''⟩
      · cases h.2
      · simp only [Option.some.injEq, Prod.mk.injEq] at h
        obtain ⟨rfl, rfl⟩ := h
        exact Or.inr ⟨_, _, rfl, h', x, h'', rfl⟩
theorem rs_con1 {b : Nat → Nat} {c : Bool} {E : ps_E} {s s' : rd_S} {V : Bool × Option Nat → Prop} (h : rs_ok (rd_run (ps_basic b) s) s' V) : rs_ok (rd_run (ps_con b 1 c E) s) s' (fun E' => ∃ z, V z ∧ E' = (E.1 ++ [(1, c, [])], z.1, ps_or z.2 E.2.2.1, E.2.2.2)) := by
  refine rs_map (f := fun z => (E.1 ++ [(1, c, [])], z.1, ps_or z.2 E.2.2.1, E.2.2.2)) (fun i l => ?_) h
  unfold ps_con
  rw [if_pos rfl]
  cases ps_basic b i l <;> rfl
theorem rs_con2 {b : Nat → Nat} {c : Bool} {E : ps_E} {s s' : rd_S} {V : Nat → Prop} (h : rs_ok (rd_run (ps_bits b) s) s' V) : rs_ok (rd_run (ps_con b 2 c E) s) s' (fun E' => ∃ z, V z ∧ E' = (E.1 ++ [(2, c, [])], E.2.1, E.2.2.1, some z, E.2.2.2.2)) := by
  refine rs_map (f := fun z => (E.1 ++ [(2, c, [])], E.2.1, E.2.2.1, some z, E.2.2.2.2)) (fun i l => ?_) h
  unfold ps_con
  rw [if_neg (by decide), if_pos rfl]
  cases ps_bits b i l <;> rfl
theorem rs_con3 {b : Nat → Nat} {c : Bool} {E : ps_E} {s s' : rd_S} {V : List ps_N × List ps_N → Prop} (h : rs_ok (rd_run (ps_bounds b) s) s' V) : rs_ok (rd_run (ps_con b 3 c E) s) s' (fun E' => ∃ z, V z ∧ E' = (E.1 ++ [(3, c, [])], E.2.1, E.2.2.1, E.2.2.2.1, z)) := by
  refine rs_map (f := fun z => (E.1 ++ [(3, c, [])], E.2.1, E.2.2.1, E.2.2.2.1, z)) (fun i l => ?_) h
  unfold ps_con
  rw [if_neg (by decide), if_neg (by decide), if_pos rfl]
  cases ps_bounds b i l <;> rfl
theorem rs_con4 {b : Nat → Nat} {c : Bool} {E : ps_E} {s s' : rd_S} {num : Nat} (hn : ¬ (num = 1 ∨ num = 2 ∨ num = 3)) (h : s' = rd_oct s) : rs_ok (rd_run (ps_con b num c E) s) s' (fun E' => ∃ i l ls, s = some (i, l :: ls) ∧ l - i ≤ 20 ∧ E' = (E.1 ++ [(num, c, ps_sl b i l)], E.2)) := by
  rw [h]
  rcases s with _ | ⟨i, _ | ⟨l, ls⟩⟩
  · exact Or.inl ⟨rfl, rfl⟩
  · exact Or.inl ⟨rfl, rfl⟩
  · simp only [rd_run]
    unfold ps_con rd_oct
    simp only []
    rw [if_neg (by omega), if_neg (by omega), if_neg (by omega)]
    by_cases hc : l - i ≤ 20
    · rw [if_pos hc, if_pos hc]
      exact Or.inr ⟨_, _, rfl, rfl, i, l, ls, rfl, hc, rfl⟩
    · rw [if_neg hc, if_neg hc]
      exact Or.inl ⟨rfl, rfl⟩
theorem rs_ext {b : Nat → Nat} {E : ps_E} {s s2 s3 s4 s6 : rd_S} {w : Nat} {tt : Bool} {V : ps_E → Prop} (hd : rd_D 2 s) (h2 : rs_ok (rd_run (ps_intr b 0 255) (rd_open b 48 s)) s2 (fun v => v = w)) (h3 : s3 = if E.1.any (fun x => x.1 == w) = true then none else s2)
    (h4 : rs_ok (rd_run (ps_tru b) s3) s4 (fun t => t = tt)) (h6 : rs_ok (rd_run (ps_con b w tt E) (rd_open b 4 s4)) s6 V) : rs_ok (rd_run (ps_ext b E) s) (rd_close (rd_close s6)) V := by
  have hd1 : rd_D 1 (rd_open b 48 s) := rd_D.opn hd
  have hd2 : rd_D 1 s2 := rs_D h2 hd1
  have hd3 : rd_D 1 s3 := by
    rw [h3]
    split
    · exact rd_D.none 1
    · exact hd2
  have hd4 : rd_D 1 s4 := rs_D h4 hd3
  have h7 := rs_in hd4 h6
  refine rs_in (hd.mono (by decide)) ?_
  generalize rd_open b 48 s = s1 at *
  rcases h2 with ⟨rfl, hX⟩ | ⟨x, t, hX, rfl, rfl⟩
  · have e3 : s3 = none := by rw [h3]; split <;> rfl
    rw [e3] at h4
    rw [rs_none h4] at h7
    rw [rs_none h7]
    refine Or.inl ⟨rfl, ?_⟩
    rcases s1 with _ | ⟨i, _ | ⟨l, ls⟩⟩
    · rfl
    · rfl
    · simp only [rd_run] at hX ⊢
      unfold ps_exc
      cases hp : ps_intr b 0 255 i l with
      | none => rfl
      | some q => rw [hp] at hX; cases hX
  · rcases s1 with _ | ⟨i, _ | ⟨l, ls⟩⟩
    · cases hX
    · cases hX
    · simp only [rd_run] at hX
      cases hp : ps_intr b 0 255 i l with
      | none => rw [hp] at hX; cases hX
      | some q =>
        obtain ⟨x', j⟩ := q
        rw [hp] at hX
        simp only [Option.some.injEq, Prod.mk.injEq] at hX
        obtain ⟨rfl, rfl⟩ := hX
        simp only [rd_run]
        unfold ps_exc
        rw [hp]
        simp only []
        by_cases hc : E.1.any (fun y => y.1 == x') = true
        · rw [if_pos hc] at h3
          rw [h3] at h4
          rw [rs_none h4] at h7
          rw [rs_none h7, if_pos hc]
          exact Or.inl ⟨rfl, rfl⟩
        · rw [if_neg hc] at h3
          rw [if_neg hc]
          rw [h3] at h4
          simp only [rd_run] at h4
          cases hq : ps_tru b j l with
          | none =>
            rw [hq] at h4
            rcases h4 with h | ⟨y, u, h, -⟩
            · rw [h.1] at h7
              rw [rs_none h7]
              exact Or.inl ⟨rfl, rfl⟩
            · cases h
          | some r =>
            obtain ⟨t', k⟩ := r
            rw [hq] at h4
            rcases h4 with h | ⟨y, u, h, h', h''⟩
            · cases h.2
            · simp only [Option.some.injEq, Prod.mk.injEq] at h
              obtain ⟨rfl, rfl⟩ := h
              rw [h'] at h7
              simp only [rd_run] at h7
              rw [h'']
              exact h7
theorem nl_is_cg {M M' : xm_M} {p : Nat} {x : List ps_N} (hx : x.length ≤ 3) (h : ∀ q, p ≤ q → q < p + 8 → M' q = M q) (hx' : nl_is M p x) : nl_is M' p x := by
  unfold nl_is nm_is at *
  refine ⟨by rw [h p (by omega) (by omega)]; exact hx'.1, fun k hk => ?_⟩
  rw [h _ (by omega) (by omega), h _ (by omega) (by omega)]
  exact hx'.2 k hk
theorem nl_is_cg2 {M M' : xm_M} {p : Nat} {x : List ps_N} (hl : M p 1 ≤ 3) (h : ∀ q, p ≤ q → q < p + 8 → M' q = M q) (hx' : nl_is M p x) : nl_is M' p x := nl_is_cg (by have := hx'.1; omega) h hx'
theorem ex_is_cg {M M' : xm_M} {p : Nat} {x : Nat × Bool × List Nat} (h1 : M' p = M p) (h2 : M' (p + 1) = M (p + 1)) (hx : ex_is M p x) : ex_is M' p x := by
  unfold ex_is at *
  rw [h1, h2]
  exact hx
theorem ct_app {M Mz : xm_M} {c k : Nat} {l : List (Nat × Bool × List Nat)} {x : Nat × Bool × List Nat} (hE : ∀ j, j < l.length → ex_is M (c + 6 + 2 * j) (l.getD j (0, false, []))) (hl : l.length = k) (ha : ∀ j, j < k → Mz (c + 6 + 2 * j) = M (c + 6 + 2 * j) ∧ Mz (c + 6 + 2 * j + 1) = M (c + 6 + 2 * j + 1)) (hx : ex_is Mz (c + 6 + 2 * k) x) : ∀ j, j < (l ++ [x]).length → ex_is Mz (c + 6 + 2 * j) ((l ++ [x]).getD j (0, false, [])) := by
  intro j hj
  simp only [List.length_append, List.length_cons, List.length_nil] at hj
  by_cases hjk : j = k
  · rw [hjk]
    have : (l ++ [x]).getD k (0, false, []) = x := by
      rw [← hl]
      simp
    rw [this]
    exact hx
  · have : (l ++ [x]).getD j (0, false, []) = l.getD j (0, false, []) := by
      simp only [List.getD_eq_getElem?_getD]
      rw [List.getElem?_append_left (by omega)]
    rw [this]
    obtain ⟨e1, e2⟩ := ha j (by omega)
    exact ex_is_cg e1 e2 (hE j (by omega))
theorem ct_any {M : xm_M} {c k w : Nat} {l : List (Nat × Bool × List Nat)} (hE : ∀ j, j < l.length → ex_is M (c + 6 + 2 * j) (l.getD j (0, false, []))) (hl : l.length = k) : l.any (fun x => x.1 == w) = true ↔ ∃ j, j < k ∧ M (c + 6 + 2 * j) 0 = w := by
  rw [List.any_eq_true]
  constructor
  · rintro ⟨x, hx, hw⟩
    obtain ⟨j, hj, he⟩ := List.getElem_of_mem hx
    refine ⟨j, by omega, ?_⟩
    have := (hE j hj).1
    rw [this]
    simp only [List.getD_eq_getElem?_getD, List.getElem?_eq_getElem hj, Option.getD_some, he]
    simpa using hw
  · rintro ⟨j, hj, hw⟩
    have hj' : j < l.length := by omega
    refine ⟨l[j], List.getElem_mem hj', ?_⟩
    have := (hE j hj').1
    rw [hw] at this
    simp only [List.getD_eq_getElem?_getD, List.getElem?_eq_getElem hj', Option.getD_some] at this
    simp [← this]
theorem rs_sound {α : Type} {P : Nat → Nat → Option (α × Nat)} {s s' : rd_S} {V : α → Prop} (h : rs_ok (rd_run P s) s' V) (hs : s' ≠ none) : s ≠ none := by
  intro e
  rw [e] at h
  exact hs (rs_none h)
theorem rd_open_sound {b : Nat → Nat} {tag : Nat} {s : rd_S} (h : rd_open b tag s ≠ none) : s ≠ none := by
  intro e
  rw [e] at h
  exact h rfl
end
section
/-! head, body, certificate -/
def ct_H (M : xm_M) (c : Nat) (H : ps_H) : Prop := M c 0 = H.1 ∧ nm_is M (c + 1) H.2.1 ∧ (M c 2 = H.2.2.1.1 ∧ M c 3 = H.2.2.1.2) ∧ nm_is M (c + 3) H.2.2.2.1 ∧ M c 5 = H.2.2.2.2.1 ∧ M c 6 = H.2.2.2.2.2
theorem nm_is_cg {M M' : xm_M} {p : Nat} {x : ps_N} (h1 : M' p = M p) (h2 : M' (p + 1) = M (p + 1)) (h : nm_is M p x) : nm_is M' p x := by
  unfold nm_is at *
  rw [h1, h2]
  exact h
theorem ct_E_cg {M M' : xm_M} {c : Nat} {E : ps_E} (hE : ct_E M c E) (h1 : M' c 11 = M c 11) (h2 : M' c 12 = M c 12) (h3 : M' c 13 = M c 13) (hl : E.1.length ≤ 4) (h5 : M (c + 14) 1 ≤ 3) (h6 : M (c + 22) 1 ≤ 3) (h : ∀ q, c + 6 ≤ q → q < c + 30 → M' q = M q) : ct_E M' c E := by
  obtain ⟨q1, q2, q3, q4, q5, q6⟩ := hE
  exact ⟨fun j hj => ex_is_cg (h _ (by omega) (by omega)) (h _ (by omega) (by omega)) (q1 j hj), by rw [h1]; exact q2, by rw [h2]; exact q3, by rw [h3]; exact q4, nl_is_cg2 h5 (fun q a b => h q (by omega) (by omega)) q5, nl_is_cg2 h6 (fun q a b => h q (by omega) (by omega)) q6⟩
theorem ct_E00 {M : xm_M} {c : Nat} (h1 : M c 11 = 0) (h2 : M c 12 = 4294967295) (h3 : M c 13 = 4294967295) (h5 : M (c + 14) 1 = 0) (h6 : M (c + 22) 1 = 0) : ct_E M c ps_E0 :=
  ⟨fun j hj => absurd hj (Nat.not_lt_zero _), h1, h2, h3, ⟨h5, fun k hk => absurd hk (Nat.not_lt_zero _)⟩, ⟨h6, fun k hk => absurd hk (Nat.not_lt_zero _)⟩⟩
theorem rs_pos {α : Type} {P : Nat → Nat → Option (α × Nat)} {s s' : rd_S} {V : α → Prop} (h : rs_ok (rd_run P s) s' V) : rs_ok (rd_run (pq_pos P) s) s' (fun z => V z.1 ∧ (∃ L, s = some (z.2.1, L)) ∧ ∃ L, s' = some (z.2.2, L)) := by
  rcases s with _ | ⟨i, _ | ⟨l, ls⟩⟩
  · rw [rs_none h]
    exact Or.inl ⟨rfl, rfl⟩
  · rw [rs_none (P := P) h]
    exact Or.inl ⟨rfl, rfl⟩
  · simp only [rd_run] at h ⊢
    unfold pq_pos
    cases hp : P i l with
    | none =>
      rw [hp] at h
      rcases h with h | ⟨y, u, h, -⟩
      · exact Or.inl ⟨h.1, rfl⟩
      · cases h
    | some q =>
      obtain ⟨x, j⟩ := q
      rw [hp] at h
      rcases h with h | ⟨y, u, h, h', h''⟩
      · cases h.2
      · simp only [Option.some.injEq, Prod.mk.injEq] at h
        obtain ⟨rfl, rfl⟩ := h
        exact Or.inr ⟨_, _, rfl, h', h'', ⟨_, rfl⟩, _, h'⟩
theorem rs_moreF {b : Nat → Nat} {s : rd_S} (hs : ∀ i, s ≠ some (i, [])) (h : rd_is b 163 s = false) : rs_ok (rd_run (ps_more b) s) s (fun E => E = ps_E0) := by
  rcases s with _ | ⟨i, _ | ⟨l, ls⟩⟩
  · exact Or.inl ⟨rfl, rfl⟩
  · exact absurd rfl (hs i)
  · simp only [rd_run]
    unfold ps_more
    rw [if_neg]
    · exact Or.inr ⟨_, _, rfl, rfl, rfl⟩
    · intro z
      simp [rd_is, z.1, z.2] at h
theorem rs_moreT {b : Nat → Nat} {s s' : rd_S} {V : ps_E → Prop} (h : rd_is b 163 s = true) (h1 : rs_ok (rd_run (pq_in b 163 (pq_in b 48 (ps_exts b 3 ps_E0))) s) s' V) : rs_ok (rd_run (ps_more b) s) s' V := by
  obtain ⟨i, l, ls, rfl, a1, a2⟩ := rd_isP h
  have e : rd_run (ps_more b) (some (i, l :: ls)) = rd_run (pq_in b 163 (pq_in b 48 (ps_exts b 3 ps_E0))) (some (i, l :: ls)) := by
    simp only [rd_run]
    unfold ps_more
    rw [if_pos ⟨a1, a2⟩]
  rw [e]
  exact h1
theorem rs_exts0 {b : Nat → Nat} {E : ps_E} {s s' : rd_S} {k : Nat} {V : ps_E → Prop} (hk : k ≤ 3) (h : rs_ok (rd_run (ps_ext b E) s) s' V) (hx : 3 ≤ k ∨ rd_rem s' = 0) : rs_ok (rd_run (ps_exts b (3 - k) E) s) s' V := by
  by_cases h3 : k = 3
  · rw [h3]
    exact h
  · have hx : rd_rem s' = 0 := by omega
    obtain ⟨n, hn⟩ : ∃ n, 3 - k = n + 1 := ⟨2 - k, by omega⟩
    rw [hn]
    rcases s with _ | ⟨i, _ | ⟨l, ls⟩⟩
    · rw [rs_none h]
      exact Or.inl ⟨rfl, rfl⟩
    · rw [rs_none (P := ps_ext b E) h]
      exact Or.inl ⟨rfl, rfl⟩
    · simp only [rd_run] at h ⊢
      unfold ps_exts
      cases hp : ps_ext b E i l with
      | none =>
        rw [hp] at h
        rcases h with h | ⟨y, u, h, -⟩
        · exact Or.inl ⟨h.1, rfl⟩
        · cases h
      | some q =>
        obtain ⟨x, j⟩ := q
        rw [hp] at h
        rcases h with h | ⟨y, u, h, h', h''⟩
        · cases h.2
        · simp only [Option.some.injEq, Prod.mk.injEq] at h
          obtain ⟨rfl, rfl⟩ := h
          rw [h'] at hx
          simp only [rd_rem] at hx
          simp only []
          rw [if_neg (by omega)]
          exact Or.inr ⟨_, _, rfl, h', h''⟩
theorem rs_exts1 {b : Nat → Nat} {E : ps_E} {s s' : rd_S} {k : Nat} {V : ps_E → Prop} (hk : k < 3) (h : rs_ok (rd_run (ps_ext b E) s) s' V) (hx : 0 < rd_rem s') : ∃ E', V E' ∧ rd_run (ps_exts b (3 - k) E) s = rd_run (ps_exts b (3 - (k + 1)) E') s' := by
  obtain ⟨n, hn⟩ : ∃ n, 3 - k = n + 1 := ⟨2 - k, by omega⟩
  rw [hn, show 3 - (k + 1) = n by omega]
  rcases h with ⟨rfl, -⟩ | ⟨E', t, hX, rfl, hV⟩
  · exact absurd hx (by simp [rd_rem])
  · refine ⟨E', hV, ?_⟩
    rcases s with _ | ⟨i, _ | ⟨l, ls⟩⟩
    · cases hX
    · cases hX
    · simp only [rd_run] at hX ⊢
      unfold ps_exts
      cases hp : ps_ext b E i l with
      | none => rw [hp] at hX; cases hX
      | some q =>
        obtain ⟨x, j⟩ := q
        rw [hp] at hX
        simp only [Option.some.injEq, Prod.mk.injEq] at hX
        obtain ⟨rfl, rfl⟩ := hX
        simp only [rd_rem] at hx
        simp only []
        rw [if_pos (by omega)]
        cases n <;> rfl
/-- a certificate's cells hold it; b: the bytes it was read from -/
def ct_C (b : Nat → Nat) (M : xm_M) (c : Nat) (C : ps_C) : Prop := ct_H M c C.1.1.1 ∧ ct_E M c C.1.1.2 ∧ M c 10 = C.1.1.2.1.length ∧ M c 8 = ps_hash b C.1.2.1 (C.1.2.2 - C.1.2.1) ∧ M c 7 = C.2
theorem rs_cert {b : Nat → Nat} {n : Nat} {s : rd_S} {V : ps_C → Prop} (h : rs_ok (rd_run (ps_crt b) (some (0, [n]))) s V) : (rd_end s = true ∧ ∃ C, ps_cert b 0 n = some C ∧ V C) ∨ (rd_end s = false ∧ ps_cert b 0 n = none) := by
  simp only [rd_run] at h
  unfold ps_cert
  cases hp : ps_crt b 0 n with
  | none =>
    rw [hp] at h
    rcases h with h | ⟨y, u, h, -⟩
    · rw [h.1]
      exact Or.inr ⟨rfl, rfl⟩
    · cases h
  | some q =>
    obtain ⟨x, j⟩ := q
    rw [hp] at h
    rcases h with h | ⟨y, u, h, h', h''⟩
    · cases h.2
    · simp only [Option.some.injEq, Prod.mk.injEq] at h
      obtain ⟨rfl, rfl⟩ := h
      rw [h']
      simp only [rd_end]
      by_cases hj : j = n
      · simp only [hj, decide_true, if_true]
        exact Or.inl ⟨trivial, x, rfl, h''⟩
      · simp only [hj, decide_false, if_false]
        exact Or.inr ⟨trivial, trivial⟩
theorem rd_of_at {M : xm_M} {i : Nat} {L : List Nat} (h : rd_of M = some (i, L)) : M 1 3 = i := by
  unfold rd_of at h
  split at h
  · simp only [Option.some.injEq, Prod.mk.injEq] at h
    exact h.1
  · cases h
end
section
/-! ByteRow: what is read and written -/
set_option maxRecDepth 100000 in
set_option maxHeartbeats 4000000 in
theorem ct_BR_has (l : Launch) (Y : xw_Y) (M : xm_M) (k : Int32) (hs : M 2 1 ≤ 160) : xc_i l qm_BR_has 0 Y [.ref (Y.2.2.2 2), .int k] M (fun r M1 => M1 = M ∧ r = nI (if 0 ≤ k.toInt ∧ k.toInt < (M 2 1 : Nat) then 1 else 0)) := by
  refine xc_i.mk .boolean rfl (by decide) (Nat.le_of_ble_eq_true rfl) ?_
  intro X hXl hX hR
  subst hXl
  have hX : xv_ok X Y prog_2_method_2_code "CertificatePath$ByteRow" 2 (xc_rm 0) := hX
  show xv_V X Y 2 0 0 xw_lk xw_N M 0 [(0, .ref (Y.2.2.2 2)), (1, .int k)] []
  refine xv_iload_n hX 1 dc_BR_has_0 rfl (rfl : _ = 1) ?_
  refine xv_if_lt hX (rfl : (k).toInt = _) (tgt := 16) (pq := 4) dc_BR_has_1 (by decide) rfl (fun c1 => ?_) (fun c1 => ?_)
  · skip
    refine xv_iconst hX (v := nI 0) dc_BR_has_16 (by decide) (rfl : _ = 17) ?_
    refine xv_reti hX hR (by decide) dc_BR_has_17 ?_
    exact ⟨rfl, by rw [if_neg (by omega)]⟩
  · skip
    refine xv_iload_n hX 1 dc_BR_has_4 rfl (rfl : _ = 5) ?_
    refine xv_aload_n hX 0 dc_BR_has_5 rfl (rfl : _ = 6) ?_
    refine xv_geti hX fl_BR_15 rfl rfl (by decide) (v := M 2 1) rfl dc_BR_has_6 (rfl : _ = 9) ?_
    refine xv_icmp_ge hX (rfl : (k).toInt = _) (nI_toInt (by omega)) (tgt := 16) (pq := 12) dc_BR_has_9 (by decide) rfl (fun c9 => ?_) (fun c9 => ?_)
    · skip
      refine xv_iconst hX (v := nI 0) dc_BR_has_16 (by decide) (rfl : _ = 17) ?_
      refine xv_reti hX hR (by decide) dc_BR_has_17 ?_
      exact ⟨rfl, by rw [if_neg (by omega)]⟩
    · skip
      refine xv_iconst hX (v := nI 1) dc_BR_has_12 (by decide) (rfl : _ = 13) ?_
      refine xv_goto hX (pq := 17) dc_BR_has_13 (by decide) ?_
      refine xv_reti hX hR (by decide) dc_BR_has_17 ?_
      exact ⟨rfl, by rw [if_pos (by omega)]⟩

set_option maxRecDepth 100000 in
set_option maxHeartbeats 4000000 in
theorem ct_BR_hashBetween (l : Launch) (Y : xw_Y) (M : xm_M) (f t : Nat) (hf : f ≤ 160) (ht : t ≤ 160) (hb : ∀ j, j < 160 → M 3 j < 256) : xc_i l qm_BR_hashBetween 0 Y [.ref (Y.2.2.2 2), .int (nI f), .int (nI t)] M (fun r M1 => M1 = M ∧ r = nI (ps_hash (M 3) f (t - f))) := by
  refine xc_i.mk .int rfl (by decide) (Nat.le_of_ble_eq_true rfl) ?_
  intro X hXl hX hR
  subst hXl
  have hX : xv_ok X Y prog_2_method_3_code "CertificatePath$ByteRow" 5 (xc_rm 0) := hX
  show xv_V X Y 5 0 0 xw_lk xw_N M 0 [(0, .ref (Y.2.2.2 2)), (1, .int (nI f)), (2, .int (nI t))] []
  refine xv_iconst hX (v := nI 0) dc_BR_hashBetween_0 (by decide) (rfl : _ = 1) ?_
  refine xv_istore_n hX [1, 2, 3, 0] dc_BR_hashBetween_1 (by decide) (L' := [(0, .ref (Y.2.2.2 2)), (1, .int (nI f)), (2, .int (nI t)), (3, .int (nI 0))]) rfl (rfl : _ = 2) ?_
  refine xv_iload_n hX 1 dc_BR_hashBetween_2 rfl (rfl : _ = 3) ?_
  refine xv_istore hX [1, 2, 3, 4, 0] dc_BR_hashBetween_3 (by decide) (L' := [(0, .ref (Y.2.2.2 2)), (1, .int (nI f)), (2, .int (nI t)), (3, .int (nI 0)), (4, .int (nI f))]) rfl (rfl : _ = 5) ?_
  have lp5 : ∀ (n : Nat) (k : Nat) (hk : k ≤ t - f), t - f - k < n → xv_V X Y 5 0 0 xw_lk xw_N M 5 [(0, .ref (Y.2.2.2 2)), (1, .int (nI f)), (2, .int (nI t)), (3, .int (nI (ps_hash (M 3) f k))), (4, .int (nI (f + k)))] [] := by
    intro n5
    induction n5 with
    | zero => intro k hk hm5; exact absurd hm5 (Nat.not_lt_zero _)
    | succ n5 ih5 =>
      intro k hk hm5
      refine xv_iload hX 4 dc_BR_hashBetween_5 rfl (rfl : _ = 7) ?_
      refine xv_iload_n hX 2 dc_BR_hashBetween_7 rfl (rfl : _ = 8) ?_
      refine xv_icmp_ge hX (nI_toInt (by omega)) (nI_toInt (by omega)) (tgt := 36) (pq := 11) dc_BR_hashBetween_8 (by decide) rfl (fun c8 => ?_) (fun c8 => ?_)
      · skip
        refine xv_iload_n hX 3 dc_BR_hashBetween_36 rfl (rfl : _ = 37) ?_
        refine xv_reti hX hR rfl dc_BR_hashBetween_37 ?_
        exact ⟨rfl, by rw [show k = t - f by omega]⟩
      · skip
        have h1 := ps_hash_lt (M 3) f k
        have h2 := hb (f + k) (by omega)
        refine xv_sipush hX (v := nI 263) dc_BR_hashBetween_11 (by decide) (rfl : _ = 14) ?_
        refine xv_iload_n hX 3 dc_BR_hashBetween_14 rfl (rfl : _ = 15) ?_
        refine xv_imul hX dc_BR_hashBetween_15 (pk_mul 263 (ps_hash (M 3) f k)) (rfl : _ = 16) ?_
        refine xv_aload_n hX 0 dc_BR_hashBetween_16 rfl (rfl : _ = 17) ?_
        refine xv_getr hX fl_BR_9 rfl rfl (by decide) rfl dc_BR_hashBetween_17 (rfl : _ = 20) ?_
        refine xv_iload hX 4 dc_BR_hashBetween_20 rfl (rfl : _ = 22) ?_
        refine xv_iald hX rfl (by decide) (by omega) (by decide) (v := M 3 (f + k)) rfl dc_BR_hashBetween_22 (rfl : _ = 23) ?_
        refine xv_iadd hX dc_BR_hashBetween_23 (nI_add (263 * (ps_hash (M 3) f k)) (M 3 (f + k))) (rfl : _ = 24) ?_
        refine xv_iconst hX (v := nI 1) dc_BR_hashBetween_24 (by decide) (rfl : _ = 25) ?_
        refine xv_iadd hX dc_BR_hashBetween_25 (nI_add ((263 * (ps_hash (M 3) f k)) + (M 3 (f + k))) 1) (rfl : _ = 26) ?_
        refine xv_ldc hX (v := nI 1000003) kc_BR_19 dc_BR_hashBetween_26 (rfl : _ = 28) ?_
        refine xv_irem hX dc_BR_hashBetween_28 (by decide) (pk_rem (by omega) (by decide) (by decide)) (rfl : _ = 29) ?_
        refine xv_istore_n hX [1, 2, 3, 0, 4] dc_BR_hashBetween_29 (by decide) (L' := [(0, .ref (Y.2.2.2 2)), (1, .int (nI f)), (2, .int (nI t)), (3, .int (nI ((((263 * (ps_hash (M 3) f k)) + (M 3 (f + k))) + 1) % 1000003))), (4, .int (nI (f + k)))]) rfl (rfl : _ = 30) ?_
        refine xv_iinc hX 4 [1, 2, 3, 4, 0] dc_BR_hashBetween_30 rfl (xi_inc (f + k) 1) (by decide) (L' := [(0, .ref (Y.2.2.2 2)), (1, .int (nI f)), (2, .int (nI t)), (3, .int (nI ((((263 * (ps_hash (M 3) f k)) + (M 3 (f + k))) + 1) % 1000003))), (4, .int (nI (f + k + 1)))]) rfl (rfl : _ = 33) ?_
        refine xv_goto hX (pq := 5) dc_BR_hashBetween_33 (by decide) ?_
        refine xv_sub (L' := [(0, .ref (Y.2.2.2 2)), (1, .int (nI f)), (2, .int (nI t)), (3, .int (nI ((((263 * (ps_hash (M 3) f k)) + (M 3 (f + k))) + 1) % 1000003))), (4, .int (nI (f + k + 1)))]) [0, 1, 2, 3, 4] rfl ?_
        exact ih5 (k + 1) (by omega) (by omega)
  refine xv_sub (L' := [(0, .ref (Y.2.2.2 2)), (1, .int (nI f)), (2, .int (nI t)), (3, .int (nI 0)), (4, .int (nI f))]) [0, 1, 2, 3, 4] rfl ?_
  exact lp5 _ 0 (Nat.zero_le _) (Nat.lt_succ_self _)

set_option maxRecDepth 100000 in
set_option maxHeartbeats 4000000 in
theorem ct_BR_append (l : Launch) (Y : xw_Y) (M : xm_M) (v : Nat) (hs : M 2 1 < 160) : xc_i l qm_BR_append 0 Y [.ref (Y.2.2.2 2), .int (nI v)] M (fun r M1 => M1 = xm_set (xm_set M 3 (M 2 1) v) 2 1 (M 2 1 + 1) ∧ r = nI (M 2 1 + 1)) := by
  refine xc_i.mk .int rfl (by decide) (Nat.le_of_ble_eq_true rfl) ?_
  intro X hXl hX hR
  subst hXl
  have hX : xv_ok X Y prog_2_method_4_code "CertificatePath$ByteRow" 2 (xc_rm 0) := hX
  show xv_V X Y 2 0 0 xw_lk xw_N M 0 [(0, .ref (Y.2.2.2 2)), (1, .int (nI v))] []
  refine xv_aload_n hX 0 dc_BR_append_0 rfl (rfl : _ = 1) ?_
  refine xv_geti hX fl_BR_15 rfl rfl (by decide) (v := M 2 1) rfl dc_BR_append_1 (rfl : _ = 4) ?_
  refine xv_aload_n hX 0 dc_BR_append_4 rfl (rfl : _ = 5) ?_
  refine xv_getr hX fl_BR_9 rfl rfl (by decide) rfl dc_BR_append_5 (rfl : _ = 8) ?_
  refine xv_alen hX (n := 160) rfl ⟨_, rfl⟩ (by decide) dc_BR_append_8 (rfl : _ = 9) ?_
  refine xv_icmp_ge hX (nI_toInt (by omega)) (show (nI 160).toInt = 160 by decide) (tgt := 32) (pq := 12) dc_BR_append_9 (by decide) rfl (fun c9 => ?_) (fun c9 => ?_)
  · exact absurd c9 (by omega)
  · skip
    refine xv_aload_n hX 0 dc_BR_append_12 rfl (rfl : _ = 13) ?_
    refine xv_getr hX fl_BR_9 rfl rfl (by decide) rfl dc_BR_append_13 (rfl : _ = 16) ?_
    refine xv_aload_n hX 0 dc_BR_append_16 rfl (rfl : _ = 17) ?_
    refine xv_geti hX fl_BR_15 rfl rfl (by decide) (v := M 2 1) rfl dc_BR_append_17 (rfl : _ = 20) ?_
    refine xv_iload_n hX 1 dc_BR_append_20 rfl (rfl : _ = 21) ?_
    refine xv_iast hX rfl (by decide) (by omega) (by decide) dc_BR_append_21 (rfl : _ = 22) ?_
    refine xv_aload_n hX 0 dc_BR_append_22 rfl (rfl : _ = 23) ?_
    refine xv_dup hX dc_BR_append_23 rfl (rfl : _ = 24) ?_
    refine xv_geti hX fl_BR_15 rfl rfl (by decide) (v := M 2 1) (xm_np (by decide)) dc_BR_append_24 (rfl : _ = 27) ?_
    refine xv_iconst hX (v := nI 1) dc_BR_append_27 (by decide) (rfl : _ = 28) ?_
    refine xv_iadd hX dc_BR_append_28 (nI_add (M 2 1) 1) (rfl : _ = 29) ?_
    refine xv_puti hX fl_BR_15 rfl rfl (by decide) dc_BR_append_29 (rfl : _ = 32) ?_
    refine xv_aload_n hX 0 dc_BR_append_32 rfl (rfl : _ = 33) ?_
    refine xv_geti hX fl_BR_15 rfl rfl (by decide) (v := M 2 1 + 1) xm_eq dc_BR_append_33 (rfl : _ = 36) ?_
    refine xv_reti hX hR rfl dc_BR_append_36 ?_
    exact ⟨rfl, rfl⟩
end
section
/-! Reader: its steps -/
set_option maxRecDepth 100000 in
set_option maxHeartbeats 4000000 in
theorem ct_RD_start (l : Launch) (Y : xw_Y) (M : xm_M) (h1 : M 2 1 ≤ 160) (h2 : ∀ j, j < 160 → M 3 j < 256) : xc_v l qm_RD_start 0 Y [.ref (Y.2.2.2 1)] M (fun M1 => rd_Q M M1 (some (0, [M 2 1]))) := by
  refine xc_v.mk rfl (by decide) (Nat.le_of_ble_eq_true rfl) ?_
  intro X hXl hX hR
  subst hXl
  have hX : xv_ok X Y prog_7_method_2_code "CertificatePath$Reader" 1 (xc_rm 0) := hX
  show xv_V X Y 1 0 0 xw_lk xw_N M 0 [(0, .ref (Y.2.2.2 1))] []
  refine xv_aload_n hX 0 dc_RD_start_0 rfl (rfl : _ = 1) ?_
  refine xv_iconst hX (v := nI 0) dc_RD_start_1 (by decide) (rfl : _ = 2) ?_
  refine xv_puti hX fl_RD_22 rfl rfl (by decide) dc_RD_start_2 (rfl : _ = 5) ?_
  refine xv_aload_n hX 0 dc_RD_start_5 rfl (rfl : _ = 6) ?_
  refine xv_getr hX fl_RD_18 rfl rfl (by decide) rfl dc_RD_start_6 (rfl : _ = 9) ?_
  refine xv_iconst hX (v := nI 0) dc_RD_start_9 (by decide) (rfl : _ = 10) ?_
  refine xv_aload_n hX 0 dc_RD_start_10 rfl (rfl : _ = 11) ?_
  refine xv_getr hX fl_RD_12 rfl rfl (by decide) rfl dc_RD_start_11 (rfl : _ = 14) ?_
  refine xv_geti hX fl_RD_33 rfl rfl (by decide) (v := M 2 1) (xm_np (by decide)) dc_RD_start_14 (rfl : _ = 17) ?_
  refine xv_iast hX rfl (by decide) (by decide) (by decide) dc_RD_start_17 (rfl : _ = 18) ?_
  refine xv_aload_n hX 0 dc_RD_start_18 rfl (rfl : _ = 19) ?_
  refine xv_iconst hX (v := nI 0) dc_RD_start_19 (by decide) (rfl : _ = 20) ?_
  refine xv_puti hX fl_RD_26 rfl rfl (by decide) dc_RD_start_20 (rfl : _ = 23) ?_
  refine xv_aload_n hX 0 dc_RD_start_23 rfl (rfl : _ = 24) ?_
  refine xv_iconst hX (v := nI 1) dc_RD_start_24 (by decide) (rfl : _ = 25) ?_
  refine xv_putz hX fl_RD_29 rfl rfl (by decide) (by decide) dc_RD_start_25 (rfl : _ = 28) ?_
  refine xv_retv hX hR dc_RD_start_28 ?_
  exact rd_st h1 h2

set_option maxRecDepth 100000 in
set_option maxHeartbeats 4000000 in
theorem ct_RD_refuse (l : Launch) (Y : xw_Y) (M : xm_M) (hI : rd_I M) : xc_v l qm_RD_refuse 0 Y [.ref (Y.2.2.2 1)] M (fun M1 => rd_Q M M1 none) := by
  refine xc_v.mk rfl (by decide) (Nat.le_of_ble_eq_true rfl) ?_
  intro X hXl hX hR
  subst hXl
  have hX : xv_ok X Y prog_7_method_3_code "CertificatePath$Reader" 1 (xc_rm 0) := hX
  show xv_V X Y 1 0 0 xw_lk xw_N M 0 [(0, .ref (Y.2.2.2 1))] []
  refine xv_aload_n hX 0 dc_RD_refuse_0 rfl (rfl : _ = 1) ?_
  refine xv_iconst hX (v := nI 0) dc_RD_refuse_1 (by decide) (rfl : _ = 2) ?_
  refine xv_putz hX fl_RD_29 rfl rfl (by decide) (by decide) dc_RD_refuse_2 (rfl : _ = 5) ?_
  refine xv_retv hX hR dc_RD_refuse_5 ?_
  exact rd_ref hI

set_option maxRecDepth 100000 in
set_option maxHeartbeats 4000000 in
theorem ct_RD_isAtEndOfRow (l : Launch) (Y : xw_Y) (M : xm_M) (hI : rd_I M) : xc_i l qm_RD_isAtEndOfRow 0 Y [.ref (Y.2.2.2 1)] M (fun r M1 => M1 = M ∧ r = nI (if rd_end (rd_of M) = true then 1 else 0)) := by
  refine xc_i.mk .boolean rfl (by decide) (Nat.le_of_ble_eq_true rfl) ?_
  intro X hXl hX hR
  subst hXl
  have hX : xv_ok X Y prog_7_method_4_code "CertificatePath$Reader" 1 (xc_rm 0) := hX
  show xv_V X Y 1 0 0 xw_lk xw_N M 0 [(0, .ref (Y.2.2.2 1))] []
  obtain ⟨h1, h2, h3, h4, h5, h6, h7⟩ := id hI
  have h6d := h6 (M 1 2) (Nat.le_refl _)
  refine xv_aload_n hX 0 dc_RD_isAtEndOfRow_0 rfl (rfl : _ = 1) ?_
  refine xv_geti hX fl_RD_29 rfl rfl (by decide) (v := M 1 4) rfl dc_RD_isAtEndOfRow_1 (rfl : _ = 4) ?_
  refine xv_if_eq hX (nI_toInt (by omega)) (tgt := 31) (pq := 7) dc_RD_isAtEndOfRow_4 (by decide) rfl (fun c4 => ?_) (fun c4 => ?_)
  · skip
    refine xv_iconst hX (v := nI 0) dc_RD_isAtEndOfRow_31 (by decide) (rfl : _ = 32) ?_
    refine xv_reti hX hR (by decide) dc_RD_isAtEndOfRow_32 ?_
    exact ⟨rfl, congrArg nI (by rw [rd_endE hI]; first | (rw [if_pos (by simp; omega)]; done) | (rw [if_neg (by simp; omega)]; done))⟩
  · skip
    have hs : M 1 4 = 1 := by omega
    have h7d := (h7 hs).1
    refine xv_aload_n hX 0 dc_RD_isAtEndOfRow_7 rfl (rfl : _ = 8) ?_
    refine xv_geti hX fl_RD_22 rfl rfl (by decide) (v := M 1 2) rfl dc_RD_isAtEndOfRow_8 (rfl : _ = 11) ?_
    refine xv_if_ne hX (nI_toInt (by omega)) (tgt := 31) (pq := 14) dc_RD_isAtEndOfRow_11 (by decide) rfl (fun c11 => ?_) (fun c11 => ?_)
    · skip
      refine xv_iconst hX (v := nI 0) dc_RD_isAtEndOfRow_31 (by decide) (rfl : _ = 32) ?_
      refine xv_reti hX hR (by decide) dc_RD_isAtEndOfRow_32 ?_
      exact ⟨rfl, congrArg nI (by rw [rd_endE hI]; first | (rw [if_pos (by simp; omega)]; done) | (rw [if_neg (by simp; omega)]; done))⟩
    · skip
      refine xv_aload_n hX 0 dc_RD_isAtEndOfRow_14 rfl (rfl : _ = 15) ?_
      refine xv_geti hX fl_RD_26 rfl rfl (by decide) (v := M 1 3) rfl dc_RD_isAtEndOfRow_15 (rfl : _ = 18) ?_
      refine xv_aload_n hX 0 dc_RD_isAtEndOfRow_18 rfl (rfl : _ = 19) ?_
      refine xv_getr hX fl_RD_18 rfl rfl (by decide) rfl dc_RD_isAtEndOfRow_19 (rfl : _ = 22) ?_
      have h60 := h6 0 (Nat.zero_le _)
      refine xv_iconst hX (v := nI 0) dc_RD_isAtEndOfRow_22 (by decide) (rfl : _ = 23) ?_
      refine xv_iald hX rfl (by decide) (by decide) (by decide) (v := M 4 0) rfl dc_RD_isAtEndOfRow_23 (rfl : _ = 24) ?_
      refine xv_icmp_ne hX (nI_toInt (by omega)) (nI_toInt (by omega)) (tgt := 31) (pq := 27) dc_RD_isAtEndOfRow_24 (by decide) rfl (fun c24 => ?_) (fun c24 => ?_)
      · skip
        refine xv_iconst hX (v := nI 0) dc_RD_isAtEndOfRow_31 (by decide) (rfl : _ = 32) ?_
        refine xv_reti hX hR (by decide) dc_RD_isAtEndOfRow_32 ?_
        exact ⟨rfl, congrArg nI (by rw [rd_endE hI]; first | (rw [if_pos (by simp; omega)]; done) | (rw [if_neg (by simp; omega)]; done))⟩
      · skip
        refine xv_iconst hX (v := nI 1) dc_RD_isAtEndOfRow_27 (by decide) (rfl : _ = 28) ?_
        refine xv_goto hX (pq := 32) dc_RD_isAtEndOfRow_28 (by decide) ?_
        refine xv_reti hX hR (by decide) dc_RD_isAtEndOfRow_32 ?_
        exact ⟨rfl, congrArg nI (by rw [rd_endE hI]; first | (rw [if_pos (by simp; omega)]; done) | (rw [if_neg (by simp; omega)]; done))⟩

set_option maxRecDepth 100000 in
set_option maxHeartbeats 4000000 in
theorem ct_RD_remaining (l : Launch) (Y : xw_Y) (M : xm_M) (hI : rd_I M) : xc_i l qm_RD_remaining 0 Y [.ref (Y.2.2.2 1)] M (fun r M1 => M1 = M ∧ r = nI (rd_rem (rd_of M))) := by
  refine xc_i.mk .int rfl (by decide) (Nat.le_of_ble_eq_true rfl) ?_
  intro X hXl hX hR
  subst hXl
  have hX : xv_ok X Y prog_7_method_5_code "CertificatePath$Reader" 1 (xc_rm 0) := hX
  show xv_V X Y 1 0 0 xw_lk xw_N M 0 [(0, .ref (Y.2.2.2 1))] []
  obtain ⟨h1, h2, h3, h4, h5, h6, h7⟩ := id hI
  have h6d := h6 (M 1 2) (Nat.le_refl _)
  refine xv_aload_n hX 0 dc_RD_remaining_0 rfl (rfl : _ = 1) ?_
  refine xv_geti hX fl_RD_29 rfl rfl (by decide) (v := M 1 4) rfl dc_RD_remaining_1 (rfl : _ = 4) ?_
  refine xv_if_eq hX (nI_toInt (by omega)) (tgt := 24) (pq := 7) dc_RD_remaining_4 (by decide) rfl (fun c4 => ?_) (fun c4 => ?_)
  · skip
    refine xv_iconst hX (v := nI 0) dc_RD_remaining_24 (by decide) (rfl : _ = 25) ?_
    refine xv_reti hX hR rfl dc_RD_remaining_25 ?_
    exact ⟨rfl, congrArg nI (by rw [rd_remE hI]; first | rw [if_pos (by omega)] | rw [if_neg (by omega)])⟩
  · skip
    have hs : M 1 4 = 1 := by omega
    have h7d := (h7 hs).1
    refine xv_aload_n hX 0 dc_RD_remaining_7 rfl (rfl : _ = 8) ?_
    refine xv_getr hX fl_RD_18 rfl rfl (by decide) rfl dc_RD_remaining_8 (rfl : _ = 11) ?_
    refine xv_aload_n hX 0 dc_RD_remaining_11 rfl (rfl : _ = 12) ?_
    refine xv_geti hX fl_RD_22 rfl rfl (by decide) (v := M 1 2) rfl dc_RD_remaining_12 (rfl : _ = 15) ?_
    refine xv_iald hX rfl (by decide) (by omega) (by decide) (v := M 4 (M 1 2)) rfl dc_RD_remaining_15 (rfl : _ = 16) ?_
    refine xv_aload_n hX 0 dc_RD_remaining_16 rfl (rfl : _ = 17) ?_
    refine xv_geti hX fl_RD_26 rfl rfl (by decide) (v := M 1 3) rfl dc_RD_remaining_17 (rfl : _ = 20) ?_
    refine xv_isub hX dc_RD_remaining_20 (pk_sub (by omega)) (rfl : _ = 21) ?_
    refine xv_goto hX (pq := 25) dc_RD_remaining_21 (by decide) ?_
    refine xv_reti hX hR rfl dc_RD_remaining_25 ?_
    exact ⟨rfl, congrArg nI (by rw [rd_remE hI]; first | rw [if_pos (by omega)] | rw [if_neg (by omega)])⟩

set_option maxRecDepth 100000 in
set_option maxHeartbeats 4000000 in
theorem ct_RD_hashSince (l : Launch) (Y : xw_Y) (M : xm_M) (f : Nat) (hI : rd_I M) (hf : f ≤ 160) : xc_i l qm_RD_hashSince 1 Y [.ref (Y.2.2.2 1), .int (nI f)] M (fun r M1 => M1 = M ∧ r = nI (ps_hash (M 3) f (M 1 3 - f))) := by
  refine xc_i.mk .int rfl (by decide) (Nat.le_of_ble_eq_true rfl) ?_
  intro X hXl hX hR
  subst hXl
  have hX : xv_ok X Y prog_7_method_6_code "CertificatePath$Reader" 2 (xc_rm 1) := hX
  show xv_V X Y 2 0 0 xw_lk xw_N M 0 [(0, .ref (Y.2.2.2 1)), (1, .int (nI f))] []
  obtain ⟨h1, h2, h3, h4, h5, h6, h7⟩ := id hI
  have h6d := h6 (M 1 2) (Nat.le_refl _)
  refine xv_aload_n hX 0 dc_RD_hashSince_0 rfl (rfl : _ = 1) ?_
  refine xv_getr hX fl_RD_12 rfl rfl (by decide) rfl dc_RD_hashSince_1 (rfl : _ = 4) ?_
  refine xv_iload_n hX 1 dc_RD_hashSince_4 rfl (rfl : _ = 5) ?_
  refine xv_aload_n hX 0 dc_RD_hashSince_5 rfl (rfl : _ = 6) ?_
  refine xv_geti hX fl_RD_26 rfl rfl (by decide) (v := M 1 3) rfl dc_RD_hashSince_6 (rfl : _ = 9) ?_
  refine xv_calli hX (As := [.int (nI f), .int (nI (M 1 3))]) (rest := []) (ct_BR_hashBetween _ Y M f (M 1 3) hf (by omega) h2) ml_RD_36 li_BR_hashBetween rfl (by decide) rfl rfl rfl (by decide) ⟨by decide, by decide⟩ ⟨Nat.le_refl _, Nat.le_refl _⟩ (Nat.le_of_ble_eq_true rfl) dc_RD_hashSince_9 (rfl : _ = 12) (fun r9 M9 p9 => ?_)
  obtain ⟨rfl, rfl⟩ := p9
  refine xv_reti hX hR rfl dc_RD_hashSince_12 ?_
  exact ⟨rfl, rfl⟩

set_option maxRecDepth 100000 in
set_option maxHeartbeats 4000000 in
theorem ct_RD_nextIs (l : Launch) (Y : xw_Y) (M : xm_M) (tag : Nat) (hI : rd_I M) (ht : tag < 256) : xc_i l qm_RD_nextIs 0 Y [.ref (Y.2.2.2 1), .int (nI tag)] M (fun r M1 => M1 = M ∧ r = nI (if rd_is (M 3) tag (rd_of M) = true then 1 else 0)) := by
  refine xc_i.mk .boolean rfl (by decide) (Nat.le_of_ble_eq_true rfl) ?_
  intro X hXl hX hR
  subst hXl
  have hX : xv_ok X Y prog_7_method_7_code "CertificatePath$Reader" 2 (xc_rm 0) := hX
  show xv_V X Y 2 0 0 xw_lk xw_N M 0 [(0, .ref (Y.2.2.2 1)), (1, .int (nI tag))] []
  obtain ⟨h1, h2, h3, h4, h5, h6, h7⟩ := id hI
  have h6d := h6 (M 1 2) (Nat.le_refl _)
  refine xv_aload_n hX 0 dc_RD_nextIs_0 rfl (rfl : _ = 1) ?_
  refine xv_geti hX fl_RD_29 rfl rfl (by decide) (v := M 1 4) rfl dc_RD_nextIs_1 (rfl : _ = 4) ?_
  refine xv_if_eq hX (nI_toInt (by omega)) (tgt := 43) (pq := 7) dc_RD_nextIs_4 (by decide) rfl (fun c4 => ?_) (fun c4 => ?_)
  · skip
    refine xv_iconst hX (v := nI 0) dc_RD_nextIs_43 (by decide) (rfl : _ = 44) ?_
    refine xv_reti hX hR (by decide) dc_RD_nextIs_44 ?_
    exact ⟨rfl, congrArg nI (by rw [rd_isE hI tag]; first | (rw [if_pos (by simp; omega)]; done) | (rw [if_neg (by simp; omega)]; done))⟩
  · skip
    have hs : M 1 4 = 1 := by omega
    have h7d := (h7 hs).1
    refine xv_aload_n hX 0 dc_RD_nextIs_7 rfl (rfl : _ = 8) ?_
    refine xv_geti hX fl_RD_26 rfl rfl (by decide) (v := M 1 3) rfl dc_RD_nextIs_8 (rfl : _ = 11) ?_
    refine xv_aload_n hX 0 dc_RD_nextIs_11 rfl (rfl : _ = 12) ?_
    refine xv_getr hX fl_RD_18 rfl rfl (by decide) rfl dc_RD_nextIs_12 (rfl : _ = 15) ?_
    refine xv_aload_n hX 0 dc_RD_nextIs_15 rfl (rfl : _ = 16) ?_
    refine xv_geti hX fl_RD_22 rfl rfl (by decide) (v := M 1 2) rfl dc_RD_nextIs_16 (rfl : _ = 19) ?_
    refine xv_iald hX rfl (by decide) (by omega) (by decide) (v := M 4 (M 1 2)) rfl dc_RD_nextIs_19 (rfl : _ = 20) ?_
    refine xv_icmp_ge hX (nI_toInt (by omega)) (nI_toInt (by omega)) (tgt := 43) (pq := 23) dc_RD_nextIs_20 (by decide) rfl (fun c20 => ?_) (fun c20 => ?_)
    · skip
      refine xv_iconst hX (v := nI 0) dc_RD_nextIs_43 (by decide) (rfl : _ = 44) ?_
      refine xv_reti hX hR (by decide) dc_RD_nextIs_44 ?_
      exact ⟨rfl, congrArg nI (by rw [rd_isE hI tag]; first | (rw [if_pos (by simp; omega)]; done) | (rw [if_neg (by simp; omega)]; done))⟩
    · skip
      refine xv_aload_n hX 0 dc_RD_nextIs_23 rfl (rfl : _ = 24) ?_
      refine xv_getr hX fl_RD_12 rfl rfl (by decide) rfl dc_RD_nextIs_24 (rfl : _ = 27) ?_
      refine xv_getr hX fl_RD_40 rfl rfl (by decide) rfl dc_RD_nextIs_27 (rfl : _ = 30) ?_
      refine xv_aload_n hX 0 dc_RD_nextIs_30 rfl (rfl : _ = 31) ?_
      refine xv_geti hX fl_RD_26 rfl rfl (by decide) (v := M 1 3) rfl dc_RD_nextIs_31 (rfl : _ = 34) ?_
      refine xv_iald hX rfl (by decide) (by omega) (by decide) (v := M 3 (M 1 3)) rfl dc_RD_nextIs_34 (rfl : _ = 35) ?_
      have hb := h2 (M 1 3) (by omega)
      refine xv_iload_n hX 1 dc_RD_nextIs_35 rfl (rfl : _ = 36) ?_
      refine xv_icmp_ne hX (nI_toInt (by omega)) (nI_toInt (by omega)) (tgt := 43) (pq := 39) dc_RD_nextIs_36 (by decide) rfl (fun c36 => ?_) (fun c36 => ?_)
      · skip
        refine xv_iconst hX (v := nI 0) dc_RD_nextIs_43 (by decide) (rfl : _ = 44) ?_
        refine xv_reti hX hR (by decide) dc_RD_nextIs_44 ?_
        exact ⟨rfl, congrArg nI (by rw [rd_isE hI tag]; first | (rw [if_pos (by simp; omega)]; done) | (rw [if_neg (by simp; omega)]; done))⟩
      · skip
        refine xv_iconst hX (v := nI 1) dc_RD_nextIs_39 (by decide) (rfl : _ = 40) ?_
        refine xv_goto hX (pq := 44) dc_RD_nextIs_40 (by decide) ?_
        refine xv_reti hX hR (by decide) dc_RD_nextIs_44 ?_
        exact ⟨rfl, congrArg nI (by rw [rd_isE hI tag]; first | (rw [if_pos (by simp; omega)]; done) | (rw [if_neg (by simp; omega)]; done))⟩

set_option maxRecDepth 100000 in
set_option maxHeartbeats 4000000 in
theorem ct_RD_readByte (l : Launch) (Y : xw_Y) (M : xm_M) (hI : rd_I M) : xc_i l qm_RD_readByte 0 Y [.ref (Y.2.2.2 1)] M (fun r M1 => rd_Q M M1 (rd_next (rd_of M)) ∧ r = nI (rd_byte (M 3) (rd_of M))) := by
  refine xc_i.mk .int rfl (by decide) (Nat.le_of_ble_eq_true rfl) ?_
  intro X hXl hX hR
  subst hXl
  have hX : xv_ok X Y prog_7_method_8_code "CertificatePath$Reader" 1 (xc_rm 0) := hX
  show xv_V X Y 1 0 0 xw_lk xw_N M 0 [(0, .ref (Y.2.2.2 1))] []
  obtain ⟨h1, h2, h3, h4, h5, h6, h7⟩ := id hI
  have h6d := h6 (M 1 2) (Nat.le_refl _)
  refine xv_aload_n hX 0 dc_RD_readByte_0 rfl (rfl : _ = 1) ?_
  refine xv_geti hX fl_RD_29 rfl rfl (by decide) (v := M 1 4) rfl dc_RD_readByte_1 (rfl : _ = 4) ?_
  refine xv_if_eq hX (nI_toInt (by omega)) (tgt := 23) (pq := 7) dc_RD_readByte_4 (by decide) rfl (fun c4 => ?_) (fun c4 => ?_)
  · skip
    refine xv_aload_n hX 0 dc_RD_readByte_23 rfl (rfl : _ = 24) ?_
    refine xv_iconst hX (v := nI 0) dc_RD_readByte_24 (by decide) (rfl : _ = 25) ?_
    refine xv_putz hX fl_RD_29 rfl rfl (by decide) (by decide) dc_RD_readByte_25 (rfl : _ = 28) ?_
    refine xv_iconst hX (v := nI 0) dc_RD_readByte_28 (by decide) (rfl : _ = 29) ?_
    refine xv_reti hX hR rfl dc_RD_readByte_29 ?_
    exact (rd_nxN hI (by omega)).imp id (fun h => by rw [h])
  · skip
    have hs : M 1 4 = 1 := by omega
    have h7d := (h7 hs).1
    refine xv_aload_n hX 0 dc_RD_readByte_7 rfl (rfl : _ = 8) ?_
    refine xv_geti hX fl_RD_26 rfl rfl (by decide) (v := M 1 3) rfl dc_RD_readByte_8 (rfl : _ = 11) ?_
    refine xv_aload_n hX 0 dc_RD_readByte_11 rfl (rfl : _ = 12) ?_
    refine xv_getr hX fl_RD_18 rfl rfl (by decide) rfl dc_RD_readByte_12 (rfl : _ = 15) ?_
    refine xv_aload_n hX 0 dc_RD_readByte_15 rfl (rfl : _ = 16) ?_
    refine xv_geti hX fl_RD_22 rfl rfl (by decide) (v := M 1 2) rfl dc_RD_readByte_16 (rfl : _ = 19) ?_
    refine xv_iald hX rfl (by decide) (by omega) (by decide) (v := M 4 (M 1 2)) rfl dc_RD_readByte_19 (rfl : _ = 20) ?_
    refine xv_icmp_lt hX (nI_toInt (by omega)) (nI_toInt (by omega)) (tgt := 30) (pq := 23) dc_RD_readByte_20 (by decide) rfl (fun c20 => ?_) (fun c20 => ?_)
    · skip
      refine xv_aload_n hX 0 dc_RD_readByte_30 rfl (rfl : _ = 31) ?_
      refine xv_dup hX dc_RD_readByte_31 rfl (rfl : _ = 32) ?_
      refine xv_geti hX fl_RD_26 rfl rfl (by decide) (v := M 1 3) rfl dc_RD_readByte_32 (rfl : _ = 35) ?_
      refine xv_iconst hX (v := nI 1) dc_RD_readByte_35 (by decide) (rfl : _ = 36) ?_
      refine xv_iadd hX dc_RD_readByte_36 (nI_add (M 1 3) 1) (rfl : _ = 37) ?_
      refine xv_puti hX fl_RD_26 rfl rfl (by decide) dc_RD_readByte_37 (rfl : _ = 40) ?_
      refine xv_aload_n hX 0 dc_RD_readByte_40 rfl (rfl : _ = 41) ?_
      refine xv_getr hX fl_RD_12 rfl rfl (by decide) rfl dc_RD_readByte_41 (rfl : _ = 44) ?_
      refine xv_getr hX fl_RD_40 rfl rfl (by decide) rfl dc_RD_readByte_44 (rfl : _ = 47) ?_
      refine xv_aload_n hX 0 dc_RD_readByte_47 rfl (rfl : _ = 48) ?_
      refine xv_geti hX fl_RD_26 rfl rfl (by decide) (v := M 1 3 + 1) xm_eq dc_RD_readByte_48 (rfl : _ = 51) ?_
      refine xv_iconst hX (v := nI 1) dc_RD_readByte_51 (by decide) (rfl : _ = 52) ?_
      refine xv_isub hX dc_RD_readByte_52 (pk_sub (by omega)) (rfl : _ = 53) ?_
      refine xv_iald hX rfl (by decide) (by omega) (by decide) (v := M 3 (M 1 3 + 1 - 1)) (xm_np (by decide)) dc_RD_readByte_53 (rfl : _ = 54) ?_
      refine xv_reti hX hR rfl dc_RD_readByte_54 ?_
      exact (rd_nxY hI hs (by omega)).imp id (fun h => by rw [h]; rfl)
    · skip
      refine xv_aload_n hX 0 dc_RD_readByte_23 rfl (rfl : _ = 24) ?_
      refine xv_iconst hX (v := nI 0) dc_RD_readByte_24 (by decide) (rfl : _ = 25) ?_
      refine xv_putz hX fl_RD_29 rfl rfl (by decide) (by decide) dc_RD_readByte_25 (rfl : _ = 28) ?_
      refine xv_iconst hX (v := nI 0) dc_RD_readByte_28 (by decide) (rfl : _ = 29) ?_
      refine xv_reti hX hR rfl dc_RD_readByte_29 ?_
      exact (rd_nxN hI (by omega)).imp id (fun h => by rw [h])

set_option maxRecDepth 100000 in
set_option maxHeartbeats 4000000 in
theorem ct_RD_open (l : Launch) (Y : xw_Y) (M : xm_M) (tag : Nat) (hI : rd_I M) (ht : tag < 256) : xc_v l qm_RD_open 0 Y [.ref (Y.2.2.2 1), .int (nI tag)] M (fun M1 => rd_Q M M1 (rd_open (M 3) tag (rd_of M))) := by
  refine xc_v.mk rfl (by decide) (Nat.le_of_ble_eq_true rfl) ?_
  intro X hXl hX hR
  subst hXl
  have hX : xv_ok X Y prog_7_method_9_code "CertificatePath$Reader" 5 (xc_rm 0) := hX
  show xv_V X Y 5 0 0 xw_lk xw_N M 0 [(0, .ref (Y.2.2.2 1)), (1, .int (nI tag))] []
  obtain ⟨h1, h2, h3, h4, h5, h6, h7⟩ := id hI
  have h6d := h6 (M 1 2) (Nat.le_refl _)
  refine xv_aload_n hX 0 dc_RD_open_0 rfl (rfl : _ = 1) ?_
  refine xv_getr hX fl_RD_18 rfl rfl (by decide) rfl dc_RD_open_1 (rfl : _ = 4) ?_
  refine xv_aload_n hX 0 dc_RD_open_4 rfl (rfl : _ = 5) ?_
  refine xv_geti hX fl_RD_22 rfl rfl (by decide) (v := M 1 2) rfl dc_RD_open_5 (rfl : _ = 8) ?_
  refine xv_iald hX rfl (by decide) (by omega) (by decide) (v := M 4 (M 1 2)) rfl dc_RD_open_8 (rfl : _ = 9) ?_
  refine xv_istore_n hX [1, 2, 0] dc_RD_open_9 (by decide) (L' := [(0, .ref (Y.2.2.2 1)), (1, .int (nI tag)), (2, .int (nI (M 4 (M 1 2))))]) rfl (rfl : _ = 10) ?_
  refine xv_aload_n hX 0 dc_RD_open_10 rfl (rfl : _ = 11) ?_
  refine xv_geti hX fl_RD_29 rfl rfl (by decide) (v := M 1 4) rfl dc_RD_open_11 (rfl : _ = 14) ?_
  refine xv_if_eq hX (nI_toInt (by omega)) (tgt := 57) (pq := 17) dc_RD_open_14 (by decide) rfl (fun c14 => ?_) (fun c14 => ?_)
  · skip
    refine xv_aload_n hX 0 dc_RD_open_57 rfl (rfl : _ = 58) ?_
    refine xv_iconst hX (v := nI 0) dc_RD_open_58 (by decide) (rfl : _ = 59) ?_
    refine xv_putz hX fl_RD_29 rfl rfl (by decide) (by decide) dc_RD_open_59 (rfl : _ = 62) ?_
    refine xv_retv hX hR dc_RD_open_62 ?_
    first
    | exact rd_opN hI (Or.inl (by omega))
    | exact rd_opN hI (Or.inr (Or.inl (by omega)))
    | exact rd_opN hI (Or.inr (Or.inr (by unfold ps_hd; (repeat' split) <;> first | rfl | (exfalso; omega))))
  · skip
    have hs : M 1 4 = 1 := by omega
    have h7d := (h7 hs).1
    refine xv_aload_n hX 0 dc_RD_open_17 rfl (rfl : _ = 18) ?_
    refine xv_geti hX fl_RD_22 rfl rfl (by decide) (v := M 1 2) rfl dc_RD_open_18 (rfl : _ = 21) ?_
    refine xv_iconst hX (v := nI 1) dc_RD_open_21 (by decide) (rfl : _ = 22) ?_
    refine xv_iadd hX dc_RD_open_22 (nI_add (M 1 2) 1) (rfl : _ = 23) ?_
    refine xv_aload_n hX 0 dc_RD_open_23 rfl (rfl : _ = 24) ?_
    refine xv_getr hX fl_RD_18 rfl rfl (by decide) rfl dc_RD_open_24 (rfl : _ = 27) ?_
    refine xv_alen hX (n := 11) rfl ⟨_, rfl⟩ (by decide) dc_RD_open_27 (rfl : _ = 28) ?_
    refine xv_icmp_ge hX (nI_toInt (by omega)) (show (nI 11).toInt = 11 by decide) (tgt := 57) (pq := 31) dc_RD_open_28 (by decide) rfl (fun c28 => ?_) (fun c28 => ?_)
    · skip
      refine xv_aload_n hX 0 dc_RD_open_57 rfl (rfl : _ = 58) ?_
      refine xv_iconst hX (v := nI 0) dc_RD_open_58 (by decide) (rfl : _ = 59) ?_
      refine xv_putz hX fl_RD_29 rfl rfl (by decide) (by decide) dc_RD_open_59 (rfl : _ = 62) ?_
      refine xv_retv hX hR dc_RD_open_62 ?_
      first
      | exact rd_opN hI (Or.inl (by omega))
      | exact rd_opN hI (Or.inr (Or.inl (by omega)))
      | exact rd_opN hI (Or.inr (Or.inr (by unfold ps_hd; (repeat' split) <;> first | rfl | (exfalso; omega))))
    · skip
      refine xv_iload_n hX 2 dc_RD_open_31 rfl (rfl : _ = 32) ?_
      refine xv_aload_n hX 0 dc_RD_open_32 rfl (rfl : _ = 33) ?_
      refine xv_geti hX fl_RD_26 rfl rfl (by decide) (v := M 1 3) rfl dc_RD_open_33 (rfl : _ = 36) ?_
      refine xv_isub hX dc_RD_open_36 (pk_sub (by omega)) (rfl : _ = 37) ?_
      refine xv_iconst hX (v := nI 2) dc_RD_open_37 (by decide) (rfl : _ = 38) ?_
      refine xv_icmp_lt hX (nI_toInt (by omega)) (show (nI 2).toInt = 2 by decide) (tgt := 57) (pq := 41) dc_RD_open_38 (by decide) rfl (fun c38 => ?_) (fun c38 => ?_)
      · skip
        refine xv_aload_n hX 0 dc_RD_open_57 rfl (rfl : _ = 58) ?_
        refine xv_iconst hX (v := nI 0) dc_RD_open_58 (by decide) (rfl : _ = 59) ?_
        refine xv_putz hX fl_RD_29 rfl rfl (by decide) (by decide) dc_RD_open_59 (rfl : _ = 62) ?_
        refine xv_retv hX hR dc_RD_open_62 ?_
        first
        | exact rd_opN hI (Or.inl (by omega))
        | exact rd_opN hI (Or.inr (Or.inl (by omega)))
        | exact rd_opN hI (Or.inr (Or.inr (by unfold ps_hd; (repeat' split) <;> first | rfl | (exfalso; omega))))
      · skip
        refine xv_aload_n hX 0 dc_RD_open_41 rfl (rfl : _ = 42) ?_
        refine xv_getr hX fl_RD_12 rfl rfl (by decide) rfl dc_RD_open_42 (rfl : _ = 45) ?_
        refine xv_getr hX fl_RD_40 rfl rfl (by decide) rfl dc_RD_open_45 (rfl : _ = 48) ?_
        refine xv_aload_n hX 0 dc_RD_open_48 rfl (rfl : _ = 49) ?_
        refine xv_geti hX fl_RD_26 rfl rfl (by decide) (v := M 1 3) rfl dc_RD_open_49 (rfl : _ = 52) ?_
        refine xv_iald hX rfl (by decide) (by omega) (by decide) (v := M 3 (M 1 3)) rfl dc_RD_open_52 (rfl : _ = 53) ?_
        have hb := h2 (M 1 3) (by omega)
        refine xv_iload_n hX 1 dc_RD_open_53 rfl (rfl : _ = 54) ?_
        refine xv_icmp_eq hX (nI_toInt (by omega)) (nI_toInt (by omega)) (tgt := 63) (pq := 57) dc_RD_open_54 (by decide) rfl (fun c54 => ?_) (fun c54 => ?_)
        · skip
          refine xv_aload_n hX 0 dc_RD_open_63 rfl (rfl : _ = 64) ?_
          refine xv_getr hX fl_RD_12 rfl rfl (by decide) rfl dc_RD_open_64 (rfl : _ = 67) ?_
          refine xv_getr hX fl_RD_40 rfl rfl (by decide) rfl dc_RD_open_67 (rfl : _ = 70) ?_
          refine xv_aload_n hX 0 dc_RD_open_70 rfl (rfl : _ = 71) ?_
          refine xv_geti hX fl_RD_26 rfl rfl (by decide) (v := M 1 3) rfl dc_RD_open_71 (rfl : _ = 74) ?_
          refine xv_iconst hX (v := nI 1) dc_RD_open_74 (by decide) (rfl : _ = 75) ?_
          refine xv_iadd hX dc_RD_open_75 (nI_add (M 1 3) 1) (rfl : _ = 76) ?_
          refine xv_iald hX rfl (by decide) (by omega) (by decide) (v := M 3 (M 1 3 + 1)) rfl dc_RD_open_76 (rfl : _ = 77) ?_
          refine xv_istore_n hX [1, 2, 3, 0] dc_RD_open_77 (by decide) (L' := [(0, .ref (Y.2.2.2 1)), (1, .int (nI tag)), (2, .int (nI (M 4 (M 1 2)))), (3, .int (nI (M 3 (M 1 3 + 1))))]) rfl (rfl : _ = 78) ?_
          refine xv_aload_n hX 0 dc_RD_open_78 rfl (rfl : _ = 79) ?_
          refine xv_geti hX fl_RD_26 rfl rfl (by decide) (v := M 1 3) rfl dc_RD_open_79 (rfl : _ = 82) ?_
          refine xv_iconst hX (v := nI 2) dc_RD_open_82 (by decide) (rfl : _ = 83) ?_
          refine xv_iadd hX dc_RD_open_83 (nI_add (M 1 3) 2) (rfl : _ = 84) ?_
          refine xv_istore hX [1, 2, 3, 4, 0] dc_RD_open_84 (by decide) (L' := [(0, .ref (Y.2.2.2 1)), (1, .int (nI tag)), (2, .int (nI (M 4 (M 1 2)))), (3, .int (nI (M 3 (M 1 3 + 1)))), (4, .int (nI (M 1 3 + 2)))]) rfl (rfl : _ = 86) ?_
          have hb1 := h2 (M 1 3 + 1) (by omega)
          refine xv_iload_n hX 3 dc_RD_open_86 rfl (rfl : _ = 87) ?_
          refine xv_bipush hX (v := nI 127) dc_RD_open_87 (by decide) (rfl : _ = 89) ?_
          refine xv_icmp_le hX (nI_toInt (by omega)) (show (nI 127).toInt = 127 by decide) (tgt := 140) (pq := 92) dc_RD_open_89 (by decide) rfl (fun c89 => ?_) (fun c89 => ?_)
          · skip
            refine xv_iload_n hX 3 dc_RD_open_140 rfl (rfl : _ = 141) ?_
            refine xv_iload_n hX 2 dc_RD_open_141 rfl (rfl : _ = 142) ?_
            refine xv_iload hX 4 dc_RD_open_142 rfl (rfl : _ = 144) ?_
            refine xv_isub hX dc_RD_open_144 (pk_sub (by omega)) (rfl : _ = 145) ?_
            refine xv_icmp_le hX (nI_toInt (by omega)) (nI_toInt (by omega)) (tgt := 154) (pq := 148) dc_RD_open_145 (by decide) rfl (fun c145 => ?_) (fun c145 => ?_)
            · skip
              refine xv_aload_n hX 0 dc_RD_open_154 rfl (rfl : _ = 155) ?_
              refine xv_iload hX 4 dc_RD_open_155 rfl (rfl : _ = 157) ?_
              refine xv_puti hX fl_RD_26 rfl rfl (by decide) dc_RD_open_157 (rfl : _ = 160) ?_
              refine xv_aload_n hX 0 dc_RD_open_160 rfl (rfl : _ = 161) ?_
              refine xv_dup hX dc_RD_open_161 rfl (rfl : _ = 162) ?_
              refine xv_geti hX fl_RD_22 rfl rfl (by decide) (v := M 1 2) (xm_nk (by decide)) dc_RD_open_162 (rfl : _ = 165) ?_
              refine xv_iconst hX (v := nI 1) dc_RD_open_165 (by decide) (rfl : _ = 166) ?_
              refine xv_iadd hX dc_RD_open_166 (nI_add (M 1 2) 1) (rfl : _ = 167) ?_
              refine xv_puti hX fl_RD_22 rfl rfl (by decide) dc_RD_open_167 (rfl : _ = 170) ?_
              refine xv_aload_n hX 0 dc_RD_open_170 rfl (rfl : _ = 171) ?_
              refine xv_getr hX fl_RD_18 rfl rfl (by decide) rfl dc_RD_open_171 (rfl : _ = 174) ?_
              refine xv_aload_n hX 0 dc_RD_open_174 rfl (rfl : _ = 175) ?_
              refine xv_geti hX fl_RD_22 rfl rfl (by decide) (v := M 1 2 + 1) xm_eq dc_RD_open_175 (rfl : _ = 178) ?_
              refine xv_iload hX 4 dc_RD_open_178 rfl (rfl : _ = 180) ?_
              refine xv_iload_n hX 3 dc_RD_open_180 rfl (rfl : _ = 181) ?_
              refine xv_iadd hX dc_RD_open_181 (nI_add (M 1 3 + 2) (M 3 (M 1 3 + 1))) (rfl : _ = 182) ?_
              refine xv_iast hX rfl (by decide) (by omega) (by decide) dc_RD_open_182 (rfl : _ = 183) ?_
              refine xv_retv hX hR dc_RD_open_183 ?_
              refine rd_opY hI hs (by omega) ?_
              unfold ps_hd
              repeat' split
              all_goals first
                | rfl
                | (exfalso; omega)
                | (simp only [Option.some.injEq, Prod.mk.injEq]; omega)
            · skip
              refine xv_aload_n hX 0 dc_RD_open_148 rfl (rfl : _ = 149) ?_
              refine xv_iconst hX (v := nI 0) dc_RD_open_149 (by decide) (rfl : _ = 150) ?_
              refine xv_putz hX fl_RD_29 rfl rfl (by decide) (by decide) dc_RD_open_150 (rfl : _ = 153) ?_
              refine xv_retv hX hR dc_RD_open_153 ?_
              first
              | exact rd_opN hI (Or.inl (by omega))
              | exact rd_opN hI (Or.inr (Or.inl (by omega)))
              | exact rd_opN hI (Or.inr (Or.inr (by unfold ps_hd; (repeat' split) <;> first | rfl | (exfalso; omega))))
          · skip
            refine xv_iload_n hX 3 dc_RD_open_92 rfl (rfl : _ = 93) ?_
            refine xv_sipush hX (v := nI 129) dc_RD_open_93 (by decide) (rfl : _ = 96) ?_
            refine xv_icmp_ne hX (nI_toInt (by omega)) (show (nI 129).toInt = 129 by decide) (tgt := 120) (pq := 99) dc_RD_open_96 (by decide) rfl (fun c96 => ?_) (fun c96 => ?_)
            · skip
              refine xv_aload_n hX 0 dc_RD_open_120 rfl (rfl : _ = 121) ?_
              refine xv_iconst hX (v := nI 0) dc_RD_open_121 (by decide) (rfl : _ = 122) ?_
              refine xv_putz hX fl_RD_29 rfl rfl (by decide) (by decide) dc_RD_open_122 (rfl : _ = 125) ?_
              refine xv_retv hX hR dc_RD_open_125 ?_
              first
              | exact rd_opN hI (Or.inl (by omega))
              | exact rd_opN hI (Or.inr (Or.inl (by omega)))
              | exact rd_opN hI (Or.inr (Or.inr (by unfold ps_hd; (repeat' split) <;> first | rfl | (exfalso; omega))))
            · skip
              refine xv_iload hX 4 dc_RD_open_99 rfl (rfl : _ = 101) ?_
              refine xv_iload_n hX 2 dc_RD_open_101 rfl (rfl : _ = 102) ?_
              refine xv_icmp_ge hX (nI_toInt (by omega)) (nI_toInt (by omega)) (tgt := 120) (pq := 105) dc_RD_open_102 (by decide) rfl (fun c102 => ?_) (fun c102 => ?_)
              · skip
                refine xv_aload_n hX 0 dc_RD_open_120 rfl (rfl : _ = 121) ?_
                refine xv_iconst hX (v := nI 0) dc_RD_open_121 (by decide) (rfl : _ = 122) ?_
                refine xv_putz hX fl_RD_29 rfl rfl (by decide) (by decide) dc_RD_open_122 (rfl : _ = 125) ?_
                refine xv_retv hX hR dc_RD_open_125 ?_
                first
                | exact rd_opN hI (Or.inl (by omega))
                | exact rd_opN hI (Or.inr (Or.inl (by omega)))
                | exact rd_opN hI (Or.inr (Or.inr (by unfold ps_hd; (repeat' split) <;> first | rfl | (exfalso; omega))))
              · skip
                refine xv_aload_n hX 0 dc_RD_open_105 rfl (rfl : _ = 106) ?_
                refine xv_getr hX fl_RD_12 rfl rfl (by decide) rfl dc_RD_open_106 (rfl : _ = 109) ?_
                refine xv_getr hX fl_RD_40 rfl rfl (by decide) rfl dc_RD_open_109 (rfl : _ = 112) ?_
                refine xv_iload hX 4 dc_RD_open_112 rfl (rfl : _ = 114) ?_
                refine xv_iald hX rfl (by decide) (by omega) (by decide) (v := M 3 (M 1 3 + 2)) rfl dc_RD_open_114 (rfl : _ = 115) ?_
                have hb2 := h2 (M 1 3 + 2) (by omega)
                refine xv_bipush hX (v := nI 127) dc_RD_open_115 (by decide) (rfl : _ = 117) ?_
                refine xv_icmp_gt hX (nI_toInt (by omega)) (show (nI 127).toInt = 127 by decide) (tgt := 126) (pq := 120) dc_RD_open_117 (by decide) rfl (fun c117 => ?_) (fun c117 => ?_)
                · skip
                  refine xv_aload_n hX 0 dc_RD_open_126 rfl (rfl : _ = 127) ?_
                  refine xv_getr hX fl_RD_12 rfl rfl (by decide) rfl dc_RD_open_127 (rfl : _ = 130) ?_
                  refine xv_getr hX fl_RD_40 rfl rfl (by decide) rfl dc_RD_open_130 (rfl : _ = 133) ?_
                  refine xv_iload hX 4 dc_RD_open_133 rfl (rfl : _ = 135) ?_
                  refine xv_iald hX rfl (by decide) (by omega) (by decide) (v := M 3 (M 1 3 + 2)) rfl dc_RD_open_135 (rfl : _ = 136) ?_
                  refine xv_istore_n hX [1, 2, 3, 0, 4] dc_RD_open_136 (by decide) (L' := [(0, .ref (Y.2.2.2 1)), (1, .int (nI tag)), (2, .int (nI (M 4 (M 1 2)))), (3, .int (nI (M 3 (M 1 3 + 2)))), (4, .int (nI (M 1 3 + 2)))]) rfl (rfl : _ = 137) ?_
                  refine xv_iinc hX 4 [1, 2, 3, 4, 0] dc_RD_open_137 rfl (xi_inc (M 1 3 + 2) 1) (by decide) (L' := [(0, .ref (Y.2.2.2 1)), (1, .int (nI tag)), (2, .int (nI (M 4 (M 1 2)))), (3, .int (nI (M 3 (M 1 3 + 2)))), (4, .int (nI (M 1 3 + 3)))]) rfl (rfl : _ = 140) ?_
                  refine xv_iload_n hX 3 dc_RD_open_140 rfl (rfl : _ = 141) ?_
                  refine xv_iload_n hX 2 dc_RD_open_141 rfl (rfl : _ = 142) ?_
                  refine xv_iload hX 4 dc_RD_open_142 rfl (rfl : _ = 144) ?_
                  refine xv_isub hX dc_RD_open_144 (pk_sub (by omega)) (rfl : _ = 145) ?_
                  refine xv_icmp_le hX (nI_toInt (by omega)) (nI_toInt (by omega)) (tgt := 154) (pq := 148) dc_RD_open_145 (by decide) rfl (fun c145 => ?_) (fun c145 => ?_)
                  · skip
                    refine xv_aload_n hX 0 dc_RD_open_154 rfl (rfl : _ = 155) ?_
                    refine xv_iload hX 4 dc_RD_open_155 rfl (rfl : _ = 157) ?_
                    refine xv_puti hX fl_RD_26 rfl rfl (by decide) dc_RD_open_157 (rfl : _ = 160) ?_
                    refine xv_aload_n hX 0 dc_RD_open_160 rfl (rfl : _ = 161) ?_
                    refine xv_dup hX dc_RD_open_161 rfl (rfl : _ = 162) ?_
                    refine xv_geti hX fl_RD_22 rfl rfl (by decide) (v := M 1 2) (xm_nk (by decide)) dc_RD_open_162 (rfl : _ = 165) ?_
                    refine xv_iconst hX (v := nI 1) dc_RD_open_165 (by decide) (rfl : _ = 166) ?_
                    refine xv_iadd hX dc_RD_open_166 (nI_add (M 1 2) 1) (rfl : _ = 167) ?_
                    refine xv_puti hX fl_RD_22 rfl rfl (by decide) dc_RD_open_167 (rfl : _ = 170) ?_
                    refine xv_aload_n hX 0 dc_RD_open_170 rfl (rfl : _ = 171) ?_
                    refine xv_getr hX fl_RD_18 rfl rfl (by decide) rfl dc_RD_open_171 (rfl : _ = 174) ?_
                    refine xv_aload_n hX 0 dc_RD_open_174 rfl (rfl : _ = 175) ?_
                    refine xv_geti hX fl_RD_22 rfl rfl (by decide) (v := M 1 2 + 1) xm_eq dc_RD_open_175 (rfl : _ = 178) ?_
                    refine xv_iload hX 4 dc_RD_open_178 rfl (rfl : _ = 180) ?_
                    refine xv_iload_n hX 3 dc_RD_open_180 rfl (rfl : _ = 181) ?_
                    refine xv_iadd hX dc_RD_open_181 (nI_add (M 1 3 + 3) (M 3 (M 1 3 + 2))) (rfl : _ = 182) ?_
                    refine xv_iast hX rfl (by decide) (by omega) (by decide) dc_RD_open_182 (rfl : _ = 183) ?_
                    refine xv_retv hX hR dc_RD_open_183 ?_
                    refine rd_opY hI hs (by omega) ?_
                    unfold ps_hd
                    repeat' split
                    all_goals first
                      | rfl
                      | (exfalso; omega)
                      | (simp only [Option.some.injEq, Prod.mk.injEq]; omega)
                  · skip
                    refine xv_aload_n hX 0 dc_RD_open_148 rfl (rfl : _ = 149) ?_
                    refine xv_iconst hX (v := nI 0) dc_RD_open_149 (by decide) (rfl : _ = 150) ?_
                    refine xv_putz hX fl_RD_29 rfl rfl (by decide) (by decide) dc_RD_open_150 (rfl : _ = 153) ?_
                    refine xv_retv hX hR dc_RD_open_153 ?_
                    first
                    | exact rd_opN hI (Or.inl (by omega))
                    | exact rd_opN hI (Or.inr (Or.inl (by omega)))
                    | exact rd_opN hI (Or.inr (Or.inr (by unfold ps_hd; (repeat' split) <;> first | rfl | (exfalso; omega))))
                · skip
                  refine xv_aload_n hX 0 dc_RD_open_120 rfl (rfl : _ = 121) ?_
                  refine xv_iconst hX (v := nI 0) dc_RD_open_121 (by decide) (rfl : _ = 122) ?_
                  refine xv_putz hX fl_RD_29 rfl rfl (by decide) (by decide) dc_RD_open_122 (rfl : _ = 125) ?_
                  refine xv_retv hX hR dc_RD_open_125 ?_
                  first
                  | exact rd_opN hI (Or.inl (by omega))
                  | exact rd_opN hI (Or.inr (Or.inl (by omega)))
                  | exact rd_opN hI (Or.inr (Or.inr (by unfold ps_hd; (repeat' split) <;> first | rfl | (exfalso; omega))))
        · skip
          refine xv_aload_n hX 0 dc_RD_open_57 rfl (rfl : _ = 58) ?_
          refine xv_iconst hX (v := nI 0) dc_RD_open_58 (by decide) (rfl : _ = 59) ?_
          refine xv_putz hX fl_RD_29 rfl rfl (by decide) (by decide) dc_RD_open_59 (rfl : _ = 62) ?_
          refine xv_retv hX hR dc_RD_open_62 ?_
          first
          | exact rd_opN hI (Or.inl (by omega))
          | exact rd_opN hI (Or.inr (Or.inl (by omega)))
          | exact rd_opN hI (Or.inr (Or.inr (by unfold ps_hd; (repeat' split) <;> first | rfl | (exfalso; omega))))

set_option maxRecDepth 100000 in
set_option maxHeartbeats 4000000 in
theorem ct_RD_close (l : Launch) (Y : xw_Y) (M : xm_M) (hI : rd_I M) : xc_v l qm_RD_close 0 Y [.ref (Y.2.2.2 1)] M (fun M1 => rd_Q M M1 (rd_close (rd_of M))) := by
  refine xc_v.mk rfl (by decide) (Nat.le_of_ble_eq_true rfl) ?_
  intro X hXl hX hR
  subst hXl
  have hX : xv_ok X Y prog_7_method_10_code "CertificatePath$Reader" 1 (xc_rm 0) := hX
  show xv_V X Y 1 0 0 xw_lk xw_N M 0 [(0, .ref (Y.2.2.2 1))] []
  obtain ⟨h1, h2, h3, h4, h5, h6, h7⟩ := id hI
  have h6d := h6 (M 1 2) (Nat.le_refl _)
  refine xv_aload_n hX 0 dc_RD_close_0 rfl (rfl : _ = 1) ?_
  refine xv_geti hX fl_RD_29 rfl rfl (by decide) (v := M 1 4) rfl dc_RD_close_1 (rfl : _ = 4) ?_
  refine xv_if_eq hX (nI_toInt (by omega)) (tgt := 30) (pq := 7) dc_RD_close_4 (by decide) rfl (fun c4 => ?_) (fun c4 => ?_)
  · skip
    refine xv_aload_n hX 0 dc_RD_close_30 rfl (rfl : _ = 31) ?_
    refine xv_iconst hX (v := nI 0) dc_RD_close_31 (by decide) (rfl : _ = 32) ?_
    refine xv_putz hX fl_RD_29 rfl rfl (by decide) (by decide) dc_RD_close_32 (rfl : _ = 35) ?_
    refine xv_retv hX hR dc_RD_close_35 ?_
    first
    | exact rd_clN hI (Or.inl (by omega))
    | exact rd_clN hI (Or.inr (Or.inl (by omega)))
    | exact rd_clN hI (Or.inr (Or.inr (by omega)))
  · skip
    have hs : M 1 4 = 1 := by omega
    have h7d := (h7 hs).1
    refine xv_aload_n hX 0 dc_RD_close_7 rfl (rfl : _ = 8) ?_
    refine xv_geti hX fl_RD_22 rfl rfl (by decide) (v := M 1 2) rfl dc_RD_close_8 (rfl : _ = 11) ?_
    refine xv_if_eq hX (nI_toInt (by omega)) (tgt := 30) (pq := 14) dc_RD_close_11 (by decide) rfl (fun c11 => ?_) (fun c11 => ?_)
    · skip
      refine xv_aload_n hX 0 dc_RD_close_30 rfl (rfl : _ = 31) ?_
      refine xv_iconst hX (v := nI 0) dc_RD_close_31 (by decide) (rfl : _ = 32) ?_
      refine xv_putz hX fl_RD_29 rfl rfl (by decide) (by decide) dc_RD_close_32 (rfl : _ = 35) ?_
      refine xv_retv hX hR dc_RD_close_35 ?_
      first
      | exact rd_clN hI (Or.inl (by omega))
      | exact rd_clN hI (Or.inr (Or.inl (by omega)))
      | exact rd_clN hI (Or.inr (Or.inr (by omega)))
    · skip
      refine xv_aload_n hX 0 dc_RD_close_14 rfl (rfl : _ = 15) ?_
      refine xv_geti hX fl_RD_26 rfl rfl (by decide) (v := M 1 3) rfl dc_RD_close_15 (rfl : _ = 18) ?_
      refine xv_aload_n hX 0 dc_RD_close_18 rfl (rfl : _ = 19) ?_
      refine xv_getr hX fl_RD_18 rfl rfl (by decide) rfl dc_RD_close_19 (rfl : _ = 22) ?_
      refine xv_aload_n hX 0 dc_RD_close_22 rfl (rfl : _ = 23) ?_
      refine xv_geti hX fl_RD_22 rfl rfl (by decide) (v := M 1 2) rfl dc_RD_close_23 (rfl : _ = 26) ?_
      refine xv_iald hX rfl (by decide) (by omega) (by decide) (v := M 4 (M 1 2)) rfl dc_RD_close_26 (rfl : _ = 27) ?_
      refine xv_icmp_eq hX (nI_toInt (by omega)) (nI_toInt (by omega)) (tgt := 36) (pq := 30) dc_RD_close_27 (by decide) rfl (fun c27 => ?_) (fun c27 => ?_)
      · skip
        refine xv_aload_n hX 0 dc_RD_close_36 rfl (rfl : _ = 37) ?_
        refine xv_dup hX dc_RD_close_37 rfl (rfl : _ = 38) ?_
        refine xv_geti hX fl_RD_22 rfl rfl (by decide) (v := M 1 2) rfl dc_RD_close_38 (rfl : _ = 41) ?_
        refine xv_iconst hX (v := nI 1) dc_RD_close_41 (by decide) (rfl : _ = 42) ?_
        refine xv_isub hX dc_RD_close_42 (pk_sub (by omega)) (rfl : _ = 43) ?_
        refine xv_puti hX fl_RD_22 rfl rfl (by decide) dc_RD_close_43 (rfl : _ = 46) ?_
        refine xv_retv hX hR dc_RD_close_46 ?_
        exact rd_clY hI hs (by omega) (by omega)
      · skip
        refine xv_aload_n hX 0 dc_RD_close_30 rfl (rfl : _ = 31) ?_
        refine xv_iconst hX (v := nI 0) dc_RD_close_31 (by decide) (rfl : _ = 32) ?_
        refine xv_putz hX fl_RD_29 rfl rfl (by decide) (by decide) dc_RD_close_32 (rfl : _ = 35) ?_
        refine xv_retv hX hR dc_RD_close_35 ?_
        first
        | exact rd_clN hI (Or.inl (by omega))
        | exact rd_clN hI (Or.inr (Or.inl (by omega)))
        | exact rd_clN hI (Or.inr (Or.inr (by omega)))
end
section
/-! Reader: INTEGER and TRUE -/
set_option maxRecDepth 100000 in
set_option maxHeartbeats 4000000 in
theorem ct_RD_readInteger (l : Launch) (Y : xw_Y) (M : xm_M) (lo hi : Nat) (hI : rd_I M) (hlo : lo ≤ hi) (hhi : hi < 2 ^ 31) : xc_i l qm_RD_readInteger 1 Y [.ref (Y.2.2.2 1), .int (nI lo), .int (nI hi)] M (fun r M1 => rd_Q M M1 (rd_int (M 3) lo hi (rd_of M)).1 ∧ ∃ w, r = nI w ∧ lo ≤ w ∧ w ≤ hi ∧ ((rd_int (M 3) lo hi (rd_of M)).1 ≠ none → w = (rd_int (M 3) lo hi (rd_of M)).2)) := by
  refine xc_i.mk .int rfl (by decide) (Nat.le_of_ble_eq_true rfl) ?_
  intro X hXl hX hR
  subst hXl
  have hX : xv_ok X Y prog_7_method_11_code "CertificatePath$Reader" 8 (xc_rm 1) := hX
  show xv_V X Y 8 0 0 xw_lk xw_N M 0 [(0, .ref (Y.2.2.2 1)), (1, .int (nI lo)), (2, .int (nI hi))] []
  refine xv_aload_n hX 0 dc_RD_readInteger_0 rfl (rfl : _ = 1) ?_
  refine xv_iconst hX (v := nI 2) dc_RD_readInteger_1 (by decide) (rfl : _ = 2) ?_
  refine xv_callv hX (As := [.int (nI 2)]) (rest := []) (ct_RD_open _ Y M 2 hI (by decide)) ml_RD_43 li_RD_open rfl (by decide) rfl rfl rfl (by decide) ⟨by decide, by decide⟩ ⟨Nat.le_refl _, Nat.le_refl _⟩ (Nat.le_of_ble_eq_true rfl) dc_RD_readInteger_2 (rfl : _ = 5) (fun M2 p2 => ?_)
  obtain ⟨i2, f2, e2⟩ := p2
  have b2 : M2 3 = M 3 := f2 3 (by decide) (by decide)
  have hn := rd_rem_le i2
  refine xv_aload_n hX 0 dc_RD_readInteger_5 rfl (rfl : _ = 6) ?_
  refine xv_calli hX (As := []) (rest := []) (ct_RD_remaining _ Y M2 i2) ml_RD_47 li_RD_remaining rfl (by decide) rfl rfl rfl (by decide) ⟨by decide, by decide⟩ ⟨Nat.le_refl _, Nat.le_refl _⟩ (Nat.le_of_ble_eq_true rfl) dc_RD_readInteger_6 (rfl : _ = 9) (fun r6 M6 p6 => ?_)
  rw [p6.1, p6.2]
  refine xv_istore_n hX [1, 2, 3, 0] dc_RD_readInteger_9 (by decide) (L' := [(0, .ref (Y.2.2.2 1)), (1, .int (nI lo)), (2, .int (nI hi)), (3, .int (nI (rd_rem (rd_of M2))))]) rfl (rfl : _ = 10) ?_
  refine xv_iload_n hX 3 dc_RD_readInteger_10 rfl (rfl : _ = 11) ?_
  refine xv_iconst hX (v := nI 1) dc_RD_readInteger_11 (by decide) (rfl : _ = 12) ?_
  refine xv_icmp_lt hX (nI_toInt (by omega)) (show (nI 1).toInt = 1 by decide) (tgt := 20) (pq := 15) dc_RD_readInteger_12 (by decide) rfl (fun c12 => ?_) (fun c12 => ?_)
  · skip
    refine xv_aload_n hX 0 dc_RD_readInteger_20 rfl (rfl : _ = 21) ?_
    refine xv_callv hX (As := []) (rest := []) (ct_RD_refuse _ Y M2 i2) ml_RD_51 li_RD_refuse rfl (by decide) rfl rfl rfl (by decide) ⟨by decide, by decide⟩ ⟨Nat.le_refl _, Nat.le_refl _⟩ (Nat.le_of_ble_eq_true rfl) dc_RD_readInteger_21 (rfl : _ = 24) (fun M21 p21 => ?_)
    obtain ⟨i21, f21, e21⟩ := p21
    refine xv_iload_n hX 1 dc_RD_readInteger_24 rfl (rfl : _ = 25) ?_
    refine xv_reti hX hR rfl dc_RD_readInteger_25 ?_
    have hA := rd_intA (lo := lo) (hi := hi) (show ¬ (1 ≤ rd_rem (rd_open (M 3) 2 (rd_of M)) ∧ rd_rem (rd_open (M 3) 2 (rd_of M)) ≤ 4) by rw [← e2]; omega)
    rw [hA]
    exact ⟨⟨i21, f2.tr f21, e21⟩, lo, rfl, Nat.le_refl _, hlo, fun h => absurd rfl h⟩
  · skip
    refine xv_iload_n hX 3 dc_RD_readInteger_15 rfl (rfl : _ = 16) ?_
    refine xv_iconst hX (v := nI 4) dc_RD_readInteger_16 (by decide) (rfl : _ = 17) ?_
    refine xv_icmp_le hX (nI_toInt (by omega)) (show (nI 4).toInt = 4 by decide) (tgt := 26) (pq := 20) dc_RD_readInteger_17 (by decide) rfl (fun c17 => ?_) (fun c17 => ?_)
    · skip
      obtain ⟨f, e, ls, hs1, hn1⟩ := rd_remP (show 1 ≤ rd_rem (rd_of M2) by omega)
      have hop : rd_open (M 3) 2 (rd_of M) = some (f, e :: ls) := by rw [← e2]; exact hs1
      obtain ⟨m, ls, rfl⟩ : ∃ m ms, ls = m :: ms := by obtain ⟨_, _, l, ls9, _, _, _, h9⟩ := rd_openI hop; simp only [List.cons.injEq] at h9; exact ⟨l, ls9, h9.2⟩
      refine xv_aload_n hX 0 dc_RD_readInteger_26 rfl (rfl : _ = 27) ?_
      refine xv_calli hX (As := []) (rest := []) (ct_RD_readByte _ Y M2 i2) ml_RD_54 li_RD_readByte rfl (by decide) rfl rfl rfl (by decide) ⟨by decide, by decide⟩ ⟨Nat.le_refl _, Nat.le_refl _⟩ (Nat.le_of_ble_eq_true rfl) dc_RD_readInteger_27 (rfl : _ = 30) (fun r27 M27 p27 => ?_)
      obtain ⟨⟨i27, f27, e27⟩, z27⟩ := p27
      have z : rd_byte (M2 3) (rd_of M2) = M 3 f := by rw [hs1, b2]; exact if_pos (by omega)
      rw [z27, z]
      have hb0 : M 3 f < 256 := by have h := rd_byte_lt i2; rw [z] at h; exact h
      refine xv_istore hX [1, 2, 3, 4, 0] dc_RD_readInteger_30 (by decide) (L' := [(0, .ref (Y.2.2.2 1)), (1, .int (nI lo)), (2, .int (nI hi)), (3, .int (nI (rd_rem (rd_of M2)))), (4, .int (nI (M 3 f)))]) rfl (rfl : _ = 32) ?_
      refine xv_iload hX 4 dc_RD_readInteger_32 rfl (rfl : _ = 34) ?_
      refine xv_istore hX [1, 2, 3, 4, 5, 0] dc_RD_readInteger_34 (by decide) (L' := [(0, .ref (Y.2.2.2 1)), (1, .int (nI lo)), (2, .int (nI hi)), (3, .int (nI (rd_rem (rd_of M2)))), (4, .int (nI (M 3 f))), (5, .int (nI (M 3 f)))]) rfl (rfl : _ = 36) ?_
      refine xv_iconst hX (v := nI 1) dc_RD_readInteger_36 (by decide) (rfl : _ = 37) ?_
      refine xv_istore hX [1, 2, 3, 4, 5, 6, 0] dc_RD_readInteger_37 (by decide) (L' := [(0, .ref (Y.2.2.2 1)), (1, .int (nI lo)), (2, .int (nI hi)), (3, .int (nI (rd_rem (rd_of M2)))), (4, .int (nI (M 3 f))), (5, .int (nI (M 3 f))), (6, .int (nI 1))]) rfl (rfl : _ = 39) ?_
      have lp39 : ∀ (n : Nat) (j : Nat) (Mk : xm_M) (v : Nat) (hj : j + 1 ≤ e - f) (hIk : rd_I Mk) (hF : rd_F M Mk) (he : rd_of Mk = rd_ib (M 3) f e (m :: ls) j) (hv1 : ¬ (1 ≤ j ∧ M 3 f = 0 ∧ M 3 (f + 1) < 128) → v = ps_be (M 3) f (j + 1)) (hv2 : v < (M 3 f + 1) * 256 ^ j), 4 - j < n → xv_V X Y 8 0 0 xw_lk xw_N Mk 39 [(0, .ref (Y.2.2.2 1)), (1, .int (nI lo)), (2, .int (nI hi)), (3, .int (nI (rd_rem (rd_of M2)))), (4, .int (nI (M 3 f))), (5, .int (nI v)), (6, .int (nI (j + 1)))] [] := by
        intro n39
        induction n39 with
        | zero => intro j Mk v hj hIk hF he hv1 hv2 hm39; exact absurd hm39 (Nat.not_lt_zero _)
        | succ n39 ih39 =>
          intro j Mk v hj hIk hF he hv1 hv2 hm39
          refine xv_iload hX 6 dc_RD_readInteger_39 rfl (rfl : _ = 41) ?_
          refine xv_iload_n hX 3 dc_RD_readInteger_41 rfl (rfl : _ = 42) ?_
          refine xv_icmp_ge hX (nI_toInt (by omega)) (nI_toInt (by omega)) (tgt := 90) (pq := 45) dc_RD_readInteger_42 (by decide) rfl (fun c42 => ?_) (fun c42 => ?_)
          · skip
            refine xv_aload_n hX 0 dc_RD_readInteger_90 rfl (rfl : _ = 91) ?_
            refine xv_callv hX (As := []) (rest := []) (ct_RD_close _ Y Mk hIk) ml_RD_57 li_RD_close rfl (by decide) rfl rfl rfl (by decide) ⟨by decide, by decide⟩ ⟨Nat.le_refl _, Nat.le_refl _⟩ (Nat.le_of_ble_eq_true rfl) dc_RD_readInteger_91 (rfl : _ = 94) (fun M91 p91 => ?_)
            obtain ⟨i91, f91, e91⟩ := p91
            have hjn : j + 1 = e - f := by omega
            rw [he, rd_ib_close hjn] at e91
            have hB := rd_intB (lo := lo) (hi := hi) hop ⟨by omega, by omega⟩
            refine xv_iload hX 4 dc_RD_readInteger_94 rfl (rfl : _ = 96) ?_
            refine xv_bipush hX (v := nI 127) dc_RD_readInteger_96 (by decide) (rfl : _ = 98) ?_
            refine xv_icmp_gt hX (nI_toInt (by omega)) (show (nI 127).toInt = 127 by decide) (tgt := 113) (pq := 101) dc_RD_readInteger_98 (by decide) rfl (fun c98 => ?_) (fun c98 => ?_)
            · skip
              refine xv_aload_n hX 0 dc_RD_readInteger_113 rfl (rfl : _ = 114) ?_
              refine xv_callv hX (As := []) (rest := []) (ct_RD_refuse _ Y M91 i91) ml_RD_51 li_RD_refuse rfl (by decide) rfl rfl rfl (by decide) ⟨by decide, by decide⟩ ⟨Nat.le_refl _, Nat.le_refl _⟩ (Nat.le_of_ble_eq_true rfl) dc_RD_readInteger_114 (rfl : _ = 117) (fun M114 p114 => ?_)
              obtain ⟨i114, f114, e114⟩ := p114
              refine xv_iload_n hX 1 dc_RD_readInteger_117 rfl (rfl : _ = 118) ?_
              refine xv_reti hX hR rfl dc_RD_readInteger_118 ?_
              rw [hB, if_neg (by intro z; first | omega | (have hv := hv1 (by omega); rw [hjn] at hv; omega))]
              exact ⟨⟨i114, (hF.tr f91).tr f114, e114⟩, lo, rfl, Nat.le_refl _, hlo, fun h => absurd rfl h⟩
            · skip
              have hv3 := rd_pow4 (show M 3 f ≤ 127 by omega) (show j ≤ 3 by omega) hv2
              refine xv_iload hX 5 dc_RD_readInteger_101 rfl (rfl : _ = 103) ?_
              refine xv_iload_n hX 1 dc_RD_readInteger_103 rfl (rfl : _ = 104) ?_
              refine xv_icmp_lt hX (nI_toInt (by omega)) (nI_toInt (by omega)) (tgt := 113) (pq := 107) dc_RD_readInteger_104 (by decide) rfl (fun c104 => ?_) (fun c104 => ?_)
              · skip
                refine xv_aload_n hX 0 dc_RD_readInteger_113 rfl (rfl : _ = 114) ?_
                refine xv_callv hX (As := []) (rest := []) (ct_RD_refuse _ Y M91 i91) ml_RD_51 li_RD_refuse rfl (by decide) rfl rfl rfl (by decide) ⟨by decide, by decide⟩ ⟨Nat.le_refl _, Nat.le_refl _⟩ (Nat.le_of_ble_eq_true rfl) dc_RD_readInteger_114 (rfl : _ = 117) (fun M114 p114 => ?_)
                obtain ⟨i114, f114, e114⟩ := p114
                refine xv_iload_n hX 1 dc_RD_readInteger_117 rfl (rfl : _ = 118) ?_
                refine xv_reti hX hR rfl dc_RD_readInteger_118 ?_
                rw [hB, if_neg (by intro z; first | omega | (have hv := hv1 (by omega); rw [hjn] at hv; omega))]
                exact ⟨⟨i114, (hF.tr f91).tr f114, e114⟩, lo, rfl, Nat.le_refl _, hlo, fun h => absurd rfl h⟩
              · skip
                refine xv_iload hX 5 dc_RD_readInteger_107 rfl (rfl : _ = 109) ?_
                refine xv_iload_n hX 2 dc_RD_readInteger_109 rfl (rfl : _ = 110) ?_
                refine xv_icmp_le hX (nI_toInt (by omega)) (nI_toInt (by omega)) (tgt := 119) (pq := 113) dc_RD_readInteger_110 (by decide) rfl (fun c110 => ?_) (fun c110 => ?_)
                · skip
                  refine xv_iload hX 5 dc_RD_readInteger_119 rfl (rfl : _ = 121) ?_
                  refine xv_reti hX hR rfl dc_RD_readInteger_121 ?_
                  by_cases hb : 1 < e - f ∧ M 3 f = 0 ∧ M 3 (f + 1) < 128
                  · rw [if_pos hb] at e91
                    rw [hB, if_neg (fun z => z.2.1 hb)]
                    exact ⟨⟨i91, hF.tr f91, e91⟩, v, rfl, by omega, by omega, fun h => absurd rfl h⟩
                  · have hv := hv1 (by omega)
                    rw [hjn] at hv
                    rw [if_neg hb] at e91
                    rw [hB, if_pos ⟨by omega, hb, by omega, by omega⟩]
                    exact ⟨⟨i91, hF.tr f91, e91⟩, v, rfl, by omega, by omega, fun _ => hv⟩
                · skip
                  refine xv_aload_n hX 0 dc_RD_readInteger_113 rfl (rfl : _ = 114) ?_
                  refine xv_callv hX (As := []) (rest := []) (ct_RD_refuse _ Y M91 i91) ml_RD_51 li_RD_refuse rfl (by decide) rfl rfl rfl (by decide) ⟨by decide, by decide⟩ ⟨Nat.le_refl _, Nat.le_refl _⟩ (Nat.le_of_ble_eq_true rfl) dc_RD_readInteger_114 (rfl : _ = 117) (fun M114 p114 => ?_)
                  obtain ⟨i114, f114, e114⟩ := p114
                  refine xv_iload_n hX 1 dc_RD_readInteger_117 rfl (rfl : _ = 118) ?_
                  refine xv_reti hX hR rfl dc_RD_readInteger_118 ?_
                  rw [hB, if_neg (by intro z; first | omega | (have hv := hv1 (by omega); rw [hjn] at hv; omega))]
                  exact ⟨⟨i114, (hF.tr f91).tr f114, e114⟩, lo, rfl, Nat.le_refl _, hlo, fun h => absurd rfl h⟩
          · skip
            refine xv_aload_n hX 0 dc_RD_readInteger_45 rfl (rfl : _ = 46) ?_
            refine xv_calli hX (As := []) (rest := []) (ct_RD_readByte _ Y Mk hIk) ml_RD_54 li_RD_readByte rfl (by decide) rfl rfl rfl (by decide) ⟨by decide, by decide⟩ ⟨Nat.le_refl _, Nat.le_refl _⟩ (Nat.le_of_ble_eq_true rfl) dc_RD_readInteger_46 (rfl : _ = 49) (fun r46 M46 p46 => ?_)
            obtain ⟨⟨i46, f46, e46⟩, z46⟩ := p46
            obtain ⟨w, hw⟩ : ∃ w, w = rd_byte (Mk 3) (rd_of Mk) := ⟨_, rfl⟩
            rw [z46, ← hw]
            have hw1 := rd_byte_lt hIk
            have bk : Mk 3 = M 3 := hF 3 (by decide) (by decide)
            have hw2 : j = 0 → w = M 3 (f + 1) := fun h0 => by rw [hw, bk, he, rd_ib_byte (by omega) (by omega), h0]
            refine xv_istore hX [1, 2, 3, 4, 5, 6, 7, 0] dc_RD_readInteger_49 (by decide) (L' := [(0, .ref (Y.2.2.2 1)), (1, .int (nI lo)), (2, .int (nI hi)), (3, .int (nI (rd_rem (rd_of M2)))), (4, .int (nI (M 3 f))), (5, .int (nI v)), (6, .int (nI (j + 1))), (7, .int (nI w))]) rfl (rfl : _ = 51) ?_
            refine xv_iload hX 6 dc_RD_readInteger_51 rfl (rfl : _ = 53) ?_
            refine xv_iconst hX (v := nI 1) dc_RD_readInteger_53 (by decide) (rfl : _ = 54) ?_
            refine xv_icmp_ne hX (nI_toInt (by omega)) (show (nI 1).toInt = 1 by decide) (tgt := 74) (pq := 57) dc_RD_readInteger_54 (by decide) rfl (fun c54 => ?_) (fun c54 => ?_)
            · skip
              refine xv_iload hX 5 dc_RD_readInteger_74 rfl (rfl : _ = 76) ?_
              refine xv_bipush hX (v := nI 8) dc_RD_readInteger_76 (by decide) (rfl : _ = 78) ?_
              refine xv_ishl hX dc_RD_readInteger_78 (xi_shl8 _) (rfl : _ = 79) ?_
              refine xv_iload hX 7 dc_RD_readInteger_79 rfl (rfl : _ = 81) ?_
              refine xv_ior hX dc_RD_readInteger_81 (xi_or8 (by omega)) (rfl : _ = 82) ?_
              refine xv_istore hX [1, 2, 3, 4, 5, 0, 6, 7] dc_RD_readInteger_82 (by decide) (L' := [(0, .ref (Y.2.2.2 1)), (1, .int (nI lo)), (2, .int (nI hi)), (3, .int (nI (rd_rem (rd_of M2)))), (4, .int (nI (M 3 f))), (5, .int (nI (v * 256 + w))), (6, .int (nI (j + 1))), (7, .int (nI w))]) rfl (rfl : _ = 84) ?_
              refine xv_iinc hX 6 [1, 2, 3, 4, 5, 6, 0, 7] dc_RD_readInteger_84 rfl (xi_inc (j + 1) 1) (by decide) (L' := [(0, .ref (Y.2.2.2 1)), (1, .int (nI lo)), (2, .int (nI hi)), (3, .int (nI (rd_rem (rd_of M2)))), (4, .int (nI (M 3 f))), (5, .int (nI (v * 256 + w))), (6, .int (nI (j + 2))), (7, .int (nI w))]) rfl (rfl : _ = 87) ?_
              refine xv_goto hX (pq := 39) dc_RD_readInteger_87 (by decide) ?_
              refine xv_sub (L' := [(0, .ref (Y.2.2.2 1)), (1, .int (nI lo)), (2, .int (nI hi)), (3, .int (nI (rd_rem (rd_of M2)))), (4, .int (nI (M 3 f))), (5, .int (nI (v * 256 + w))), (6, .int (nI (j + 2)))]) [0, 1, 2, 3, 4, 5, 6] rfl ?_
              exact ih39 (j + 1) M46 (v * 256 + w) (by omega) i46 (hF.tr f46) (by rw [e46, he]; exact rd_ib_next (by omega) (by omega)) (fun hb => by have hv := hv1 (by omega); rw [hv, hw, bk, he, rd_ib_byte (by omega) (by omega)]; show _ = 256 * ps_be (M 3) f (j + 1) + _; omega) (by rw [Nat.pow_succ, ← Nat.mul_assoc]; omega) (by omega)
            · skip
              refine xv_iload hX 4 dc_RD_readInteger_57 rfl (rfl : _ = 59) ?_
              refine xv_if_ne hX (nI_toInt (by omega)) (tgt := 74) (pq := 62) dc_RD_readInteger_59 (by decide) rfl (fun c59 => ?_) (fun c59 => ?_)
              · skip
                refine xv_iload hX 5 dc_RD_readInteger_74 rfl (rfl : _ = 76) ?_
                refine xv_bipush hX (v := nI 8) dc_RD_readInteger_76 (by decide) (rfl : _ = 78) ?_
                refine xv_ishl hX dc_RD_readInteger_78 (xi_shl8 _) (rfl : _ = 79) ?_
                refine xv_iload hX 7 dc_RD_readInteger_79 rfl (rfl : _ = 81) ?_
                refine xv_ior hX dc_RD_readInteger_81 (xi_or8 (by omega)) (rfl : _ = 82) ?_
                refine xv_istore hX [1, 2, 3, 4, 5, 0, 6, 7] dc_RD_readInteger_82 (by decide) (L' := [(0, .ref (Y.2.2.2 1)), (1, .int (nI lo)), (2, .int (nI hi)), (3, .int (nI (rd_rem (rd_of M2)))), (4, .int (nI (M 3 f))), (5, .int (nI (v * 256 + w))), (6, .int (nI (j + 1))), (7, .int (nI w))]) rfl (rfl : _ = 84) ?_
                refine xv_iinc hX 6 [1, 2, 3, 4, 5, 6, 0, 7] dc_RD_readInteger_84 rfl (xi_inc (j + 1) 1) (by decide) (L' := [(0, .ref (Y.2.2.2 1)), (1, .int (nI lo)), (2, .int (nI hi)), (3, .int (nI (rd_rem (rd_of M2)))), (4, .int (nI (M 3 f))), (5, .int (nI (v * 256 + w))), (6, .int (nI (j + 2))), (7, .int (nI w))]) rfl (rfl : _ = 87) ?_
                refine xv_goto hX (pq := 39) dc_RD_readInteger_87 (by decide) ?_
                refine xv_sub (L' := [(0, .ref (Y.2.2.2 1)), (1, .int (nI lo)), (2, .int (nI hi)), (3, .int (nI (rd_rem (rd_of M2)))), (4, .int (nI (M 3 f))), (5, .int (nI (v * 256 + w))), (6, .int (nI (j + 2)))]) [0, 1, 2, 3, 4, 5, 6] rfl ?_
                exact ih39 (j + 1) M46 (v * 256 + w) (by omega) i46 (hF.tr f46) (by rw [e46, he]; exact rd_ib_next (by omega) (by omega)) (fun hb => by have hv := hv1 (by omega); rw [hv, hw, bk, he, rd_ib_byte (by omega) (by omega)]; show _ = 256 * ps_be (M 3) f (j + 1) + _; omega) (by rw [Nat.pow_succ, ← Nat.mul_assoc]; omega) (by omega)
              · skip
                refine xv_iload hX 7 dc_RD_readInteger_62 rfl (rfl : _ = 64) ?_
                refine xv_sipush hX (v := nI 128) dc_RD_readInteger_64 (by decide) (rfl : _ = 67) ?_
                refine xv_icmp_ge hX (nI_toInt (by omega)) (show (nI 128).toInt = 128 by decide) (tgt := 74) (pq := 70) dc_RD_readInteger_67 (by decide) rfl (fun c67 => ?_) (fun c67 => ?_)
                · skip
                  refine xv_iload hX 5 dc_RD_readInteger_74 rfl (rfl : _ = 76) ?_
                  refine xv_bipush hX (v := nI 8) dc_RD_readInteger_76 (by decide) (rfl : _ = 78) ?_
                  refine xv_ishl hX dc_RD_readInteger_78 (xi_shl8 _) (rfl : _ = 79) ?_
                  refine xv_iload hX 7 dc_RD_readInteger_79 rfl (rfl : _ = 81) ?_
                  refine xv_ior hX dc_RD_readInteger_81 (xi_or8 (by omega)) (rfl : _ = 82) ?_
                  refine xv_istore hX [1, 2, 3, 4, 5, 0, 6, 7] dc_RD_readInteger_82 (by decide) (L' := [(0, .ref (Y.2.2.2 1)), (1, .int (nI lo)), (2, .int (nI hi)), (3, .int (nI (rd_rem (rd_of M2)))), (4, .int (nI (M 3 f))), (5, .int (nI (v * 256 + w))), (6, .int (nI (j + 1))), (7, .int (nI w))]) rfl (rfl : _ = 84) ?_
                  refine xv_iinc hX 6 [1, 2, 3, 4, 5, 6, 0, 7] dc_RD_readInteger_84 rfl (xi_inc (j + 1) 1) (by decide) (L' := [(0, .ref (Y.2.2.2 1)), (1, .int (nI lo)), (2, .int (nI hi)), (3, .int (nI (rd_rem (rd_of M2)))), (4, .int (nI (M 3 f))), (5, .int (nI (v * 256 + w))), (6, .int (nI (j + 2))), (7, .int (nI w))]) rfl (rfl : _ = 87) ?_
                  refine xv_goto hX (pq := 39) dc_RD_readInteger_87 (by decide) ?_
                  refine xv_sub (L' := [(0, .ref (Y.2.2.2 1)), (1, .int (nI lo)), (2, .int (nI hi)), (3, .int (nI (rd_rem (rd_of M2)))), (4, .int (nI (M 3 f))), (5, .int (nI (v * 256 + w))), (6, .int (nI (j + 2)))]) [0, 1, 2, 3, 4, 5, 6] rfl ?_
                  exact ih39 (j + 1) M46 (v * 256 + w) (by omega) i46 (hF.tr f46) (by rw [e46, he]; exact rd_ib_next (by omega) (by omega)) (fun hb => by have hv := hv1 (by omega); rw [hv, hw, bk, he, rd_ib_byte (by omega) (by omega)]; show _ = 256 * ps_be (M 3) f (j + 1) + _; omega) (by rw [Nat.pow_succ, ← Nat.mul_assoc]; omega) (by omega)
                · skip
                  refine xv_aload_n hX 0 dc_RD_readInteger_70 rfl (rfl : _ = 71) ?_
                  refine xv_callv hX (As := []) (rest := []) (ct_RD_refuse _ Y M46 i46) ml_RD_51 li_RD_refuse rfl (by decide) rfl rfl rfl (by decide) ⟨by decide, by decide⟩ ⟨Nat.le_refl _, Nat.le_refl _⟩ (Nat.le_of_ble_eq_true rfl) dc_RD_readInteger_71 (rfl : _ = 74) (fun M71 p71 => ?_)
                  obtain ⟨i71, f71, e71⟩ := p71
                  refine xv_iload hX 5 dc_RD_readInteger_74 rfl (rfl : _ = 76) ?_
                  refine xv_bipush hX (v := nI 8) dc_RD_readInteger_76 (by decide) (rfl : _ = 78) ?_
                  refine xv_ishl hX dc_RD_readInteger_78 (xi_shl8 _) (rfl : _ = 79) ?_
                  refine xv_iload hX 7 dc_RD_readInteger_79 rfl (rfl : _ = 81) ?_
                  refine xv_ior hX dc_RD_readInteger_81 (xi_or8 (by omega)) (rfl : _ = 82) ?_
                  refine xv_istore hX [1, 2, 3, 4, 5, 0, 6, 7] dc_RD_readInteger_82 (by decide) (L' := [(0, .ref (Y.2.2.2 1)), (1, .int (nI lo)), (2, .int (nI hi)), (3, .int (nI (rd_rem (rd_of M2)))), (4, .int (nI (M 3 f))), (5, .int (nI (v * 256 + w))), (6, .int (nI (j + 1))), (7, .int (nI w))]) rfl (rfl : _ = 84) ?_
                  refine xv_iinc hX 6 [1, 2, 3, 4, 5, 6, 0, 7] dc_RD_readInteger_84 rfl (xi_inc (j + 1) 1) (by decide) (L' := [(0, .ref (Y.2.2.2 1)), (1, .int (nI lo)), (2, .int (nI hi)), (3, .int (nI (rd_rem (rd_of M2)))), (4, .int (nI (M 3 f))), (5, .int (nI (v * 256 + w))), (6, .int (nI (j + 2))), (7, .int (nI w))]) rfl (rfl : _ = 87) ?_
                  refine xv_goto hX (pq := 39) dc_RD_readInteger_87 (by decide) ?_
                  refine xv_sub (L' := [(0, .ref (Y.2.2.2 1)), (1, .int (nI lo)), (2, .int (nI hi)), (3, .int (nI (rd_rem (rd_of M2)))), (4, .int (nI (M 3 f))), (5, .int (nI (v * 256 + w))), (6, .int (nI (j + 2)))]) [0, 1, 2, 3, 4, 5, 6] rfl ?_
                  exact ih39 (j + 1) M71 (v * 256 + w) (by omega) i71 ((hF.tr f46).tr f71) (by rw [e71]; unfold rd_ib; rw [if_pos (by omega)]) (fun hb => absurd hb (by omega)) (by rw [Nat.pow_succ, ← Nat.mul_assoc]; omega) (by omega)
      refine xv_sub (L' := [(0, .ref (Y.2.2.2 1)), (1, .int (nI lo)), (2, .int (nI hi)), (3, .int (nI (rd_rem (rd_of M2)))), (4, .int (nI (M 3 f))), (5, .int (nI (M 3 f))), (6, .int (nI 1))]) [0, 1, 2, 3, 4, 5, 6] rfl ?_
      exact lp39 _ 0 M27 (M 3 f) (by omega) i27 (f2.tr f27) (by rw [e27, hs1]; unfold rd_ib; rw [if_neg (by omega)]; exact if_pos (by omega)) (fun _ => by simp [ps_be]) (by simp) (Nat.lt_succ_self _)
    · skip
      refine xv_aload_n hX 0 dc_RD_readInteger_20 rfl (rfl : _ = 21) ?_
      refine xv_callv hX (As := []) (rest := []) (ct_RD_refuse _ Y M2 i2) ml_RD_51 li_RD_refuse rfl (by decide) rfl rfl rfl (by decide) ⟨by decide, by decide⟩ ⟨Nat.le_refl _, Nat.le_refl _⟩ (Nat.le_of_ble_eq_true rfl) dc_RD_readInteger_21 (rfl : _ = 24) (fun M21 p21 => ?_)
      obtain ⟨i21, f21, e21⟩ := p21
      refine xv_iload_n hX 1 dc_RD_readInteger_24 rfl (rfl : _ = 25) ?_
      refine xv_reti hX hR rfl dc_RD_readInteger_25 ?_
      have hA := rd_intA (lo := lo) (hi := hi) (show ¬ (1 ≤ rd_rem (rd_open (M 3) 2 (rd_of M)) ∧ rd_rem (rd_open (M 3) 2 (rd_of M)) ≤ 4) by rw [← e2]; omega)
      rw [hA]
      exact ⟨⟨i21, f2.tr f21, e21⟩, lo, rfl, Nat.le_refl _, hlo, fun h => absurd rfl h⟩
set_option maxRecDepth 100000 in
set_option maxHeartbeats 4000000 in
theorem ct_RD_readTrueIfThere (l : Launch) (Y : xw_Y) (M : xm_M) (hI : rd_I M) : xc_i l qm_RD_readTrueIfThere 1 Y [.ref (Y.2.2.2 1)] M (fun r M1 => rd_Q M M1 (rd_tru (M 3) (rd_of M)).1 ∧ r = nI (if rd_is (M 3) 1 (rd_of M) = true then 1 else 0)) := by
  refine xc_i.mk .boolean rfl (by decide) (Nat.le_of_ble_eq_true rfl) ?_
  intro X hXl hX hR
  subst hXl
  have hX : xv_ok X Y prog_7_method_12_code "CertificatePath$Reader" 1 (xc_rm 1) := hX
  show xv_V X Y 1 0 0 xw_lk xw_N M 0 [(0, .ref (Y.2.2.2 1))] []
  refine xv_aload_n hX 0 dc_RD_readTrueIfThere_0 rfl (rfl : _ = 1) ?_
  refine xv_iconst hX (v := nI 1) dc_RD_readTrueIfThere_1 (by decide) (rfl : _ = 2) ?_
  refine xv_calli hX (As := [.int (nI 1)]) (rest := []) (ct_RD_nextIs _ Y M 1 hI (by decide)) ml_RD_60 li_RD_nextIs rfl (by decide) rfl rfl rfl (by decide) ⟨by decide, by decide⟩ ⟨Nat.le_refl _, Nat.le_refl _⟩ (Nat.le_of_ble_eq_true rfl) dc_RD_readTrueIfThere_2 (rfl : _ = 5) (fun r2 M2 p2 => ?_)
  rw [p2.1, p2.2]
  have hif : (if rd_is (M 3) 1 (rd_of M) = true then 1 else 0) < 2 := by split <;> decide
  refine xv_if_ne hX (nI_toInt (by omega)) (tgt := 10) (pq := 8) dc_RD_readTrueIfThere_5 (by decide) rfl (fun c5 => ?_) (fun c5 => ?_)
  · skip
    have hc : rd_is (M 3) 1 (rd_of M) = true := by cases h : rd_is (M 3) 1 (rd_of M) with
      | true => rfl
      | false => rw [h] at c5; simp at c5
    refine xv_aload_n hX 0 dc_RD_readTrueIfThere_10 rfl (rfl : _ = 11) ?_
    refine xv_iconst hX (v := nI 1) dc_RD_readTrueIfThere_11 (by decide) (rfl : _ = 12) ?_
    refine xv_callv hX (As := [.int (nI 1)]) (rest := []) (ct_RD_open _ Y M 1 hI (by decide)) ml_RD_43 li_RD_open rfl (by decide) rfl rfl rfl (by decide) ⟨by decide, by decide⟩ ⟨Nat.le_refl _, Nat.le_refl _⟩ (Nat.le_of_ble_eq_true rfl) dc_RD_readTrueIfThere_12 (rfl : _ = 15) (fun M12 p12 => ?_)
    obtain ⟨i12, f12, e12⟩ := p12
    have b12 : M12 3 = M 3 := f12 3 (by decide) (by decide)
    refine xv_aload_n hX 0 dc_RD_readTrueIfThere_15 rfl (rfl : _ = 16) ?_
    refine xv_calli hX (As := []) (rest := []) (ct_RD_readByte _ Y M12 i12) ml_RD_54 li_RD_readByte rfl (by decide) rfl rfl rfl (by decide) ⟨by decide, by decide⟩ ⟨Nat.le_refl _, Nat.le_refl _⟩ (Nat.le_of_ble_eq_true rfl) dc_RD_readTrueIfThere_16 (rfl : _ = 19) (fun r16 M16 p16 => ?_)
    obtain ⟨⟨i16, f16, e16⟩, z16⟩ := p16
    have hw := rd_byte_lt i12
    rw [z16]
    refine xv_sipush hX (v := nI 255) dc_RD_readTrueIfThere_19 (by decide) (rfl : _ = 22) ?_
    refine xv_icmp_eq hX (nI_toInt (by omega)) (show (nI 255).toInt = 255 by decide) (tgt := 29) (pq := 25) dc_RD_readTrueIfThere_22 (by decide) rfl (fun c22 => ?_) (fun c22 => ?_)
    · skip
      refine xv_aload_n hX 0 dc_RD_readTrueIfThere_29 rfl (rfl : _ = 30) ?_
      refine xv_callv hX (As := []) (rest := []) (ct_RD_close _ Y M16 i16) ml_RD_57 li_RD_close rfl (by decide) rfl rfl rfl (by decide) ⟨by decide, by decide⟩ ⟨Nat.le_refl _, Nat.le_refl _⟩ (Nat.le_of_ble_eq_true rfl) dc_RD_readTrueIfThere_30 (rfl : _ = 33) (fun M30 p30 => ?_)
      obtain ⟨i30, f30, e30⟩ := p30
      refine xv_iconst hX (v := nI 1) dc_RD_readTrueIfThere_33 (by decide) (rfl : _ = 34) ?_
      refine xv_reti hX hR (by decide) dc_RD_readTrueIfThere_34 ?_
      rw [hc, rd_truT hc, ← e12, ← b12]
      rw [if_pos (by omega)]
      rw [e16] at e30
      exact ⟨⟨i30, (f12.tr f16).tr f30, e30⟩, rfl⟩
    · skip
      refine xv_aload_n hX 0 dc_RD_readTrueIfThere_25 rfl (rfl : _ = 26) ?_
      refine xv_callv hX (As := []) (rest := []) (ct_RD_refuse _ Y M16 i16) ml_RD_51 li_RD_refuse rfl (by decide) rfl rfl rfl (by decide) ⟨by decide, by decide⟩ ⟨Nat.le_refl _, Nat.le_refl _⟩ (Nat.le_of_ble_eq_true rfl) dc_RD_readTrueIfThere_26 (rfl : _ = 29) (fun M26 p26 => ?_)
      obtain ⟨i26, f26, e26⟩ := p26
      refine xv_aload_n hX 0 dc_RD_readTrueIfThere_29 rfl (rfl : _ = 30) ?_
      refine xv_callv hX (As := []) (rest := []) (ct_RD_close _ Y M26 i26) ml_RD_57 li_RD_close rfl (by decide) rfl rfl rfl (by decide) ⟨by decide, by decide⟩ ⟨Nat.le_refl _, Nat.le_refl _⟩ (Nat.le_of_ble_eq_true rfl) dc_RD_readTrueIfThere_30 (rfl : _ = 33) (fun M30 p30 => ?_)
      obtain ⟨i30, f30, e30⟩ := p30
      refine xv_iconst hX (v := nI 1) dc_RD_readTrueIfThere_33 (by decide) (rfl : _ = 34) ?_
      refine xv_reti hX hR (by decide) dc_RD_readTrueIfThere_34 ?_
      rw [hc, rd_truT hc, ← e12, ← b12]
      rw [if_neg (by omega)]
      rw [e26] at e30
      exact ⟨⟨i30, ((f12.tr f16).tr f26).tr f30, e30⟩, rfl⟩
  · skip
    have hc : rd_is (M 3) 1 (rd_of M) = false := by cases h : rd_is (M 3) 1 (rd_of M) with
      | false => rfl
      | true => rw [h] at c5; simp at c5
    refine xv_iconst hX (v := nI 0) dc_RD_readTrueIfThere_8 (by decide) (rfl : _ = 9) ?_
    refine xv_reti hX hR (by decide) dc_RD_readTrueIfThere_9 ?_
    rw [rd_truF hc, hc]
    exact ⟨⟨hI, rd_F.rf M, rfl⟩, rfl⟩
end
section
/-! Name: within, same, read -/
/-- the name at p is within the name at q -/
def nm_wi (M : xm_M) (p q : Nat) : Prop := M q 1 ≤ M p 1 ∧ ∀ m, m < M q 1 → M (p + 1) m = M (q + 1) m

set_option maxRecDepth 100000 in
set_option maxHeartbeats 4000000 in
theorem ct_NM_isWithin (l : Launch) (Y : xw_Y) (M : xm_M) (p q : Nat) (hp : xk_nm p) (hq : xk_nm q) (h1 : M p 1 ≤ 4) (h2 : M q 1 ≤ 4) (b1 : ∀ m, m < M p 1 → M (p + 1) m < 18446744073709551616) (b2 : ∀ m, m < M q 1 → M (q + 1) m < 18446744073709551616) : xc_i l qm_NM_isWithin 0 Y [.ref (Y.2.2.2 p), .ref (Y.2.2.2 q)] M (fun r M1 => M1 = M ∧ ∃ t : Nat, r = nI t ∧ t < 2 ∧ (t = 1 ↔ nm_wi M p q)) := by
  refine xc_i.mk .boolean rfl (by decide) (Nat.le_of_ble_eq_true rfl) ?_
  intro X hXl hX hR
  subst hXl
  have hX : xv_ok X Y prog_5_method_2_code "CertificatePath$Name" 3 (xc_rm 0) := hX
  show xv_V X Y 3 0 0 xw_lk xw_N M 0 [(0, .ref (Y.2.2.2 p)), (1, .ref (Y.2.2.2 q))] []
  refine xv_aload_n hX 0 dc_NM_isWithin_0 rfl (rfl : _ = 1) ?_
  refine xv_geti hX fl_NM_15 rfl hp.1 (xk_N (Nat.lt_of_succ_lt hp.2.2.2.2)) (v := M p 1) rfl dc_NM_isWithin_1 (rfl : _ = 4) ?_
  refine xv_aload_n hX 1 dc_NM_isWithin_4 rfl (rfl : _ = 5) ?_
  refine xv_geti hX fl_NM_15 rfl hq.1 (xk_N (Nat.lt_of_succ_lt hq.2.2.2.2)) (v := M q 1) rfl dc_NM_isWithin_5 (rfl : _ = 8) ?_
  refine xv_icmp_ge hX (nI_toInt (by omega)) (nI_toInt (by omega)) (tgt := 13) (pq := 11) dc_NM_isWithin_8 (by decide) rfl (fun c8 => ?_) (fun c8 => ?_)
  · skip
    refine xv_iconst hX (v := nI 0) dc_NM_isWithin_13 (by decide) (rfl : _ = 14) ?_
    refine xv_istore_n hX [1, 2, 0] dc_NM_isWithin_14 (by decide) (L' := [(0, .ref (Y.2.2.2 p)), (1, .ref (Y.2.2.2 q)), (2, .int (nI 0))]) rfl (rfl : _ = 15) ?_
    have lp15 : ∀ (n : Nat) (k : Nat) (hk : k ≤ M q 1) (he : ∀ m, m < k → M (p + 1) m = M (q + 1) m), M q 1 - k < n → xv_V X Y 3 0 0 xw_lk xw_N M 15 [(0, .ref (Y.2.2.2 p)), (1, .ref (Y.2.2.2 q)), (2, .int (nI k))] [] := by
      intro n15
      induction n15 with
      | zero => intro k hk he hm15; exact absurd hm15 (Nat.not_lt_zero _)
      | succ n15 ih15 =>
        intro k hk he hm15
        refine xv_iload_n hX 2 dc_NM_isWithin_15 rfl (rfl : _ = 16) ?_
        refine xv_aload_n hX 1 dc_NM_isWithin_16 rfl (rfl : _ = 17) ?_
        refine xv_geti hX fl_NM_15 rfl hq.1 (xk_N (Nat.lt_of_succ_lt hq.2.2.2.2)) (v := M q 1) rfl dc_NM_isWithin_17 (rfl : _ = 20) ?_
        refine xv_icmp_ge hX (nI_toInt (by omega)) (nI_toInt (by omega)) (tgt := 47) (pq := 23) dc_NM_isWithin_20 (by decide) rfl (fun c20 => ?_) (fun c20 => ?_)
        · skip
          refine xv_iconst hX (v := nI 1) dc_NM_isWithin_47 (by decide) (rfl : _ = 48) ?_
          refine xv_reti hX hR (by decide) dc_NM_isWithin_48 ?_
          exact ⟨rfl, 1, rfl, by decide, fun _ => ⟨by omega, fun m hm => he m (by omega)⟩, fun _ => rfl⟩
        · skip
          refine xv_aload_n hX 0 dc_NM_isWithin_23 rfl (rfl : _ = 24) ?_
          refine xv_getr hX fl_NM_9 rfl hp.1 (xk_N (Nat.lt_of_succ_lt hp.2.2.2.2)) hp.2.2.1 dc_NM_isWithin_24 (rfl : _ = 27) ?_
          refine xv_iload_n hX 2 dc_NM_isWithin_27 rfl (rfl : _ = 28) ?_
          refine xv_lald hX hp.2.1 (xk_N hp.2.2.2.2) (by omega) (by decide) (v := M (p + 1) k) rfl dc_NM_isWithin_28 (rfl : _ = 29) ?_
          refine xv_aload_n hX 1 dc_NM_isWithin_29 rfl (rfl : _ = 30) ?_
          refine xv_getr hX fl_NM_9 rfl hq.1 (xk_N (Nat.lt_of_succ_lt hq.2.2.2.2)) hq.2.2.1 dc_NM_isWithin_30 (rfl : _ = 33) ?_
          refine xv_iload_n hX 2 dc_NM_isWithin_33 rfl (rfl : _ = 34) ?_
          refine xv_lald hX hq.2.1 (xk_N hq.2.2.2.2) (by omega) (by decide) (v := M (q + 1) k) rfl dc_NM_isWithin_34 (rfl : _ = 35) ?_
          have hb1 := b1 k (by omega)
          have hb2 := b2 k (by omega)
          refine xv_lcmp hX dc_NM_isWithin_35 (rfl : _ = 36) ?_
          refine xv_if_eq hX (rfl : (lg_cmp (lN (M (p + 1) k)) (lN (M (q + 1) k))).toInt = _) (tgt := 41) (pq := 39) dc_NM_isWithin_36 (by decide) rfl (fun c36 => ?_) (fun c36 => ?_)
          · skip
            have c36 : M (p + 1) k = M (q + 1) k := (xi_lcmp hb1 hb2).mp c36
            refine xv_iinc hX 2 [1, 2, 0] dc_NM_isWithin_41 rfl (xi_inc k 1) (by decide) (L' := [(0, .ref (Y.2.2.2 p)), (1, .ref (Y.2.2.2 q)), (2, .int (nI (k + 1)))]) rfl (rfl : _ = 44) ?_
            refine xv_goto hX (pq := 15) dc_NM_isWithin_44 (by decide) ?_
            refine xv_sub (L' := [(0, .ref (Y.2.2.2 p)), (1, .ref (Y.2.2.2 q)), (2, .int (nI (k + 1)))]) [0, 1, 2] rfl ?_
            exact ih15 (k + 1) (by omega) (fun m hm => by rcases Nat.lt_or_eq_of_le (Nat.le_of_lt_succ hm) with h | h; exact he m h; rw [h]; exact c36) (by omega)
          · skip
            have c36 : M (p + 1) k ≠ M (q + 1) k := fun h => c36 ((xi_lcmp hb1 hb2).mpr h)
            refine xv_iconst hX (v := nI 0) dc_NM_isWithin_39 (by decide) (rfl : _ = 40) ?_
            refine xv_reti hX hR (by decide) dc_NM_isWithin_40 ?_
            exact ⟨rfl, 0, rfl, by decide, by simp, fun h => absurd (h.2 k (by omega)) c36⟩
    refine xv_sub (L' := [(0, .ref (Y.2.2.2 p)), (1, .ref (Y.2.2.2 q)), (2, .int (nI 0))]) [0, 1, 2] rfl ?_
    exact lp15 _ 0 (Nat.zero_le _) (fun m hm => absurd hm (Nat.not_lt_zero _)) (Nat.lt_succ_self _)
  · skip
    refine xv_iconst hX (v := nI 0) dc_NM_isWithin_11 (by decide) (rfl : _ = 12) ?_
    refine xv_reti hX hR (by decide) dc_NM_isWithin_12 ?_
    exact ⟨rfl, 0, rfl, by decide, by simp, fun h => absurd h.1 (by omega)⟩

set_option maxRecDepth 100000 in
set_option maxHeartbeats 4000000 in
theorem ct_NM_isSameAs (l : Launch) (Y : xw_Y) (M : xm_M) (p q : Nat) (hp : xk_nm p) (hq : xk_nm q) (h1 : M p 1 ≤ 4) (h2 : M q 1 ≤ 4) (b1 : ∀ m, m < M p 1 → M (p + 1) m < 18446744073709551616) (b2 : ∀ m, m < M q 1 → M (q + 1) m < 18446744073709551616) : xc_i l qm_NM_isSameAs 1 Y [.ref (Y.2.2.2 p), .ref (Y.2.2.2 q)] M (fun r M1 => M1 = M ∧ ∃ t : Nat, r = nI t ∧ t < 2 ∧ (t = 1 ↔ M p 1 = M q 1 ∧ nm_wi M p q)) := by
  refine xc_i.mk .boolean rfl (by decide) (Nat.le_of_ble_eq_true rfl) ?_
  intro X hXl hX hR
  subst hXl
  have hX : xv_ok X Y prog_5_method_3_code "CertificatePath$Name" 2 (xc_rm 1) := hX
  show xv_V X Y 2 0 0 xw_lk xw_N M 0 [(0, .ref (Y.2.2.2 p)), (1, .ref (Y.2.2.2 q))] []
  refine xv_aload_n hX 0 dc_NM_isSameAs_0 rfl (rfl : _ = 1) ?_
  refine xv_geti hX fl_NM_15 rfl hp.1 (xk_N (Nat.lt_of_succ_lt hp.2.2.2.2)) (v := M p 1) rfl dc_NM_isSameAs_1 (rfl : _ = 4) ?_
  refine xv_aload_n hX 1 dc_NM_isSameAs_4 rfl (rfl : _ = 5) ?_
  refine xv_geti hX fl_NM_15 rfl hq.1 (xk_N (Nat.lt_of_succ_lt hq.2.2.2.2)) (v := M q 1) rfl dc_NM_isSameAs_5 (rfl : _ = 8) ?_
  refine xv_icmp_ne hX (nI_toInt (by omega)) (nI_toInt (by omega)) (tgt := 23) (pq := 11) dc_NM_isSameAs_8 (by decide) rfl (fun c8 => ?_) (fun c8 => ?_)
  · skip
    refine xv_iconst hX (v := nI 0) dc_NM_isSameAs_23 (by decide) (rfl : _ = 24) ?_
    refine xv_reti hX hR (by decide) dc_NM_isSameAs_24 ?_
    first
    | exact ⟨rfl, 0, rfl, by decide, by simp, fun h => absurd h.1 (by omega)⟩
    | exact ⟨rfl, 0, rfl, by decide, by simp, fun h => absurd (pi.mpr h.2) (by omega)⟩
  · skip
    refine xv_aload_n hX 0 dc_NM_isSameAs_11 rfl (rfl : _ = 12) ?_
    refine xv_aload_n hX 1 dc_NM_isSameAs_12 rfl (rfl : _ = 13) ?_
    refine xv_calli hX (As := [.ref (Y.2.2.2 q)]) (rest := []) (ct_NM_isWithin _ Y M p q hp hq h1 h2 b1 b2) ml_NM_19 li_NM_isWithin hp.1 (xk_N (Nat.lt_of_succ_lt hp.2.2.2.2)) rfl rfl rfl (by decide) ⟨by decide, by decide⟩ ⟨Nat.le_refl _, Nat.le_refl _⟩ (Nat.le_of_ble_eq_true rfl) dc_NM_isSameAs_13 (rfl : _ = 16) (fun r13 M13 p13 => ?_)
    obtain ⟨pM, t, pr, pt, pi⟩ := p13
    rw [pM, pr]
    refine xv_if_eq hX (nI_toInt (by omega)) (tgt := 23) (pq := 19) dc_NM_isSameAs_16 (by decide) rfl (fun c16 => ?_) (fun c16 => ?_)
    · skip
      refine xv_iconst hX (v := nI 0) dc_NM_isSameAs_23 (by decide) (rfl : _ = 24) ?_
      refine xv_reti hX hR (by decide) dc_NM_isSameAs_24 ?_
      first
      | exact ⟨rfl, 0, rfl, by decide, by simp, fun h => absurd h.1 (by omega)⟩
      | exact ⟨rfl, 0, rfl, by decide, by simp, fun h => absurd (pi.mpr h.2) (by omega)⟩
    · skip
      refine xv_iconst hX (v := nI 1) dc_NM_isSameAs_19 (by decide) (rfl : _ = 20) ?_
      refine xv_goto hX (pq := 24) dc_NM_isSameAs_20 (by decide) ?_
      refine xv_reti hX hR (by decide) dc_NM_isSameAs_24 ?_
      exact ⟨rfl, 1, rfl, by decide, fun _ => ⟨by omega, pi.mp (by omega)⟩, fun _ => rfl⟩

set_option maxRecDepth 100000 in
set_option maxHeartbeats 4000000 in
theorem ct_NM_readFrom (l : Launch) (Y : xw_Y) (M : xm_M) (p : Nat) (hp : xk_nm p) (hI : rd_I M) (hd : rd_D 2 (rd_of M)) : xc_v l qm_NM_readFrom 1 Y [.ref (Y.2.2.2 p), .ref (Y.2.2.2 1)] M (fun M1 => rd_I M1 ∧ nm_F p M M1 ∧ M1 p 1 ≤ 4 ∧ ((rd_of M1 = none ∧ rd_run (ps_name (M 3)) (rd_of M) = none) ∨ ∃ x s, rd_run (ps_name (M 3)) (rd_of M) = some (x, s) ∧ rd_of M1 = some s ∧ nm_is M1 p x)) := by
  refine xc_v.mk rfl (by decide) (Nat.le_of_ble_eq_true rfl) ?_
  intro X hXl hX hR
  subst hXl
  have hX : xv_ok X Y prog_5_method_4_code "CertificatePath$Name" 6 (xc_rm 1) := hX
  show xv_V X Y 6 0 0 xw_lk xw_N M 0 [(0, .ref (Y.2.2.2 p)), (1, .ref (Y.2.2.2 1))] []
  have hp6 := hp.2.2.2.1
  have hc0 : ∀ q, q < 6 → (xm_set M p 1 0) q = M q := fun q hq => xm_oth (by omega)
  have hI0 : rd_I (xm_set M p 1 0) := hI.cg hc0
  have ho0 : rd_of (xm_set M p 1 0) = rd_of M := rd_of_cg hc0
  refine xv_aload_n hX 0 dc_NM_readFrom_0 rfl (rfl : _ = 1) ?_
  refine xv_iconst hX (v := nI 0) dc_NM_readFrom_1 (by decide) (rfl : _ = 2) ?_
  refine xv_puti hX fl_NM_15 rfl hp.1 (xk_N (Nat.lt_of_succ_lt hp.2.2.2.2)) dc_NM_readFrom_2 (rfl : _ = 5) ?_
  refine xv_aload_n hX 1 dc_NM_readFrom_5 rfl (rfl : _ = 6) ?_
  refine xv_bipush hX (v := nI 48) dc_NM_readFrom_6 (by decide) (rfl : _ = 8) ?_
  refine xv_callv hX (As := [.int (nI 48)]) (rest := []) (ct_RD_open _ Y (xm_set M p 1 0) 48 hI0 (by decide)) ml_NM_23 li_RD_open rfl (by decide) rfl rfl rfl (by decide) ⟨by decide, by decide⟩ ⟨Nat.le_refl _, Nat.le_refl _⟩ (Nat.le_of_ble_eq_true rfl) dc_NM_readFrom_8 (rfl : _ = 11) (fun M8 p8 => ?_)
  obtain ⟨i8, f8, e8⟩ := p8
  rw [ho0, hc0 3 (by decide)] at e8
  have lpO : ∀ (n : Nat) (Mk : xm_M) (k : Nat) (hk : k ≤ 4) (hk1 : Mk p 1 = k) (hIk : rd_I Mk) (hF : nm_F p M Mk) (hO : nm_O (M 3) (rd_run (ps_name (M 3)) (rd_of M)) (Mk (p + 1)) (rd_of Mk) k), 4 - k < n → xv_V X Y 6 0 0 xw_lk xw_N Mk 11 [(0, .ref (Y.2.2.2 p)), (1, .ref (Y.2.2.2 1))] [] := by
    intro n11
    induction n11 with
    | zero => intro Mk k hk hk1 hIk hF hO hm11; exact absurd hm11 (Nat.not_lt_zero _)
    | succ n11 ih11 =>
      intro Mk k hk hk1 hIk hF hO hm11
      refine xv_aload_n hX 0 dc_NM_readFrom_11 rfl (rfl : _ = 12) ?_
      refine xv_geti hX fl_NM_15 rfl hp.1 (xk_N (Nat.lt_of_succ_lt hp.2.2.2.2)) (v := Mk p 1) rfl dc_NM_readFrom_12 (rfl : _ = 15) ?_
      refine xv_aload_n hX 0 dc_NM_readFrom_15 rfl (rfl : _ = 16) ?_
      refine xv_getr hX fl_NM_9 rfl hp.1 (xk_N (Nat.lt_of_succ_lt hp.2.2.2.2)) hp.2.2.1 dc_NM_readFrom_16 (rfl : _ = 19) ?_
      refine xv_alen hX (n := 4) hp.2.1 ⟨_, rfl⟩ (xk_N hp.2.2.2.2) dc_NM_readFrom_19 (rfl : _ = 20) ?_
      refine xv_icmp_ge hX (nI_toInt (by omega)) (show (nI 4).toInt = 4 by decide) (tgt := 131) (pq := 23) dc_NM_readFrom_20 (by decide) rfl (fun c20 => ?_) (fun c20 => ?_)
      · skip
        refine xv_aload_n hX 1 dc_NM_readFrom_131 rfl (rfl : _ = 132) ?_
        refine xv_callv hX (As := []) (rest := []) (ct_RD_close _ Y Mk hIk) ml_NM_39 li_RD_close rfl (by decide) rfl rfl rfl (by decide) ⟨by decide, by decide⟩ ⟨Nat.le_refl _, Nat.le_refl _⟩ (Nat.le_of_ble_eq_true rfl) dc_NM_readFrom_132 (rfl : _ = 135) (fun M132 p132 => ?_)
        obtain ⟨i132, f132, e132⟩ := p132
        refine xv_retv hX hR dc_NM_readFrom_135 ?_
        have hx := nm_O2 hO (by omega) hk (fun i l ls h => (rd_at_le hIk h).1)
        rw [← e132] at hx
        refine ⟨i132, hF.tr (nm_F.of f132), by rw [f132 p (by omega) (by omega)]; omega, ?_⟩
        rcases hx with h | ⟨x, j, h1, h2, h3, h4⟩
        · exact Or.inl h
        · exact Or.inr ⟨x, j, h1, h2, by rw [f132 p (by omega) (by omega)]; omega, fun q hq => by rw [f132 (p + 1) (by omega) (by omega)]; exact h4 q (by omega)⟩
      · skip
        refine xv_aload_n hX 1 dc_NM_readFrom_23 rfl (rfl : _ = 24) ?_
        refine xv_calli hX (As := []) (rest := []) (ct_RD_remaining _ Y Mk hIk) ml_NM_29 li_RD_remaining rfl (by decide) rfl rfl rfl (by decide) ⟨by decide, by decide⟩ ⟨Nat.le_refl _, Nat.le_refl _⟩ (Nat.le_of_ble_eq_true rfl) dc_NM_readFrom_24 (rfl : _ = 27) (fun r24 M24 p24 => ?_)
        rw [p24.1, p24.2]
        have hn := rd_rem_le hIk
        refine xv_if_le hX (nI_toInt (by omega)) (tgt := 131) (pq := 30) dc_NM_readFrom_27 (by decide) rfl (fun c27 => ?_) (fun c27 => ?_)
        · skip
          refine xv_aload_n hX 1 dc_NM_readFrom_131 rfl (rfl : _ = 132) ?_
          refine xv_callv hX (As := []) (rest := []) (ct_RD_close _ Y Mk hIk) ml_NM_39 li_RD_close rfl (by decide) rfl rfl rfl (by decide) ⟨by decide, by decide⟩ ⟨Nat.le_refl _, Nat.le_refl _⟩ (Nat.le_of_ble_eq_true rfl) dc_NM_readFrom_132 (rfl : _ = 135) (fun M132 p132 => ?_)
          obtain ⟨i132, f132, e132⟩ := p132
          refine xv_retv hX hR dc_NM_readFrom_135 ?_
          have hx := nm_O2 hO (by omega) hk (fun i l ls h => (rd_at_le hIk h).1)
          rw [← e132] at hx
          refine ⟨i132, hF.tr (nm_F.of f132), by rw [f132 p (by omega) (by omega)]; omega, ?_⟩
          rcases hx with h | ⟨x, j, h1, h2, h3, h4⟩
          · exact Or.inl h
          · exact Or.inr ⟨x, j, h1, h2, by rw [f132 p (by omega) (by omega)]; omega, fun q hq => by rw [f132 (p + 1) (by omega) (by omega)]; exact h4 q (by omega)⟩
        · skip
          rcases id hO with ⟨h0, -⟩ | ⟨i, e, m, L, pre, hs, hL, hpl, hf, hXX⟩
          · exact absurd c27 (by rw [h0]; simp [rd_rem])
          have hie : i < e := by rw [hs] at c27; simp only [rd_rem] at c27; omega
          have bk : Mk 3 = M 3 := hF 3 (by decide) (by decide) (by omega) (by omega)
          refine xv_aload_n hX 1 dc_NM_readFrom_30 rfl (rfl : _ = 31) ?_
          refine xv_bipush hX (v := nI 19) dc_NM_readFrom_31 (by decide) (rfl : _ = 33) ?_
          refine xv_callv hX (As := [.int (nI 19)]) (rest := []) (ct_RD_open _ Y Mk 19 hIk (by decide)) ml_NM_23 li_RD_open rfl (by decide) rfl rfl rfl (by decide) ⟨by decide, by decide⟩ ⟨Nat.le_refl _, Nat.le_refl _⟩ (Nat.le_of_ble_eq_true rfl) dc_NM_readFrom_33 (rfl : _ = 36) (fun M33 p33 => ?_)
          obtain ⟨i33, f33, e33⟩ := p33
          rw [hs, bk] at e33
          have hJ0 := nm_J0 (b := M 3) (i := i) (e := e) (L := m :: L) (by simp only [List.length_cons]; omega)
          rw [← e33] at hJ0
          refine xv_lconst hX (v := lN 0) dc_NM_readFrom_36 rfl (rfl : _ = 37) ?_
          refine xv_lstore_n hX [1, 2, 0] dc_NM_readFrom_37 (by decide) (L' := [(0, .ref (Y.2.2.2 p)), (1, .ref (Y.2.2.2 1)), (2, .long (lN 0))]) rfl (rfl : _ = 38) ?_
          refine xv_iconst hX (v := nI 0) dc_NM_readFrom_38 (by decide) (rfl : _ = 39) ?_
          refine xv_istore hX [1, 2, 3, 0] dc_NM_readFrom_39 (by decide) (L' := [(0, .ref (Y.2.2.2 p)), (1, .ref (Y.2.2.2 1)), (2, .long (lN 0)), (4, .int (nI 0))]) rfl (rfl : _ = 41) ?_
          have lpI : ∀ (n : Nat) (Mt : xm_M) (v : Nat) (t : Nat) (ht : t ≤ 8) (hIt : rd_I Mt) (hFt : rd_F Mk Mt) (hJ : nm_J (M 3) i e (m :: L) (rd_of Mt) v t) (hv : v < 256 ^ t), 8 - t < n → xv_V X Y 6 0 0 xw_lk xw_N Mt 41 [(0, .ref (Y.2.2.2 p)), (1, .ref (Y.2.2.2 1)), (2, .long (lN v)), (4, .int (nI t))] [] := by
            intro n41
            induction n41 with
            | zero => intro Mt v t ht hIt hFt hJ hv hm41; exact absurd hm41 (Nat.not_lt_zero _)
            | succ n41 ih41 =>
              intro Mt v t ht hIt hFt hJ hv hm41
              refine xv_iload hX 3 dc_NM_readFrom_41 rfl (rfl : _ = 43) ?_
              refine xv_bipush hX (v := nI 8) dc_NM_readFrom_43 (by decide) (rfl : _ = 45) ?_
              refine xv_icmp_ge hX (nI_toInt (by omega)) (show (nI 8).toInt = 8 by decide) (tgt := 94) (pq := 48) dc_NM_readFrom_45 (by decide) rfl (fun c45 => ?_) (fun c45 => ?_)
              · skip
                refine xv_lload_n hX 2 dc_NM_readFrom_94 rfl (rfl : _ = 95) ?_
                refine xv_lconst hX (v := lN 0) dc_NM_readFrom_95 rfl (rfl : _ = 96) ?_
                have hv64 := xi_pow8 hv ht
                refine xv_lcmp hX dc_NM_readFrom_96 (rfl : _ = 97) ?_
                refine xv_if_ne hX (rfl : (lg_cmp (lN v) (lN 0)).toInt = _) (tgt := 104) (pq := 100) dc_NM_readFrom_97 (by decide) rfl (fun c97 => ?_) (fun c97 => ?_)
                · skip
                  have c97 : v ≠ 0 := fun h => c97 ((xi_lcmp hv64 (by decide)).mpr h)
                  refine xv_aload_n hX 1 dc_NM_readFrom_104 rfl (rfl : _ = 105) ?_
                  refine xv_callv hX (As := []) (rest := []) (ct_RD_close _ Y Mt hIt) ml_NM_39 li_RD_close rfl (by decide) rfl rfl rfl (by decide) ⟨by decide, by decide⟩ ⟨Nat.le_refl _, Nat.le_refl _⟩ (Nat.le_of_ble_eq_true rfl) dc_NM_readFrom_105 (rfl : _ = 108) (fun M105 p105 => ?_)
                  obtain ⟨i105, f105, e105⟩ := p105
                  have fc : rd_F Mk M105 := hFt.tr f105
                  have e9 : rd_of M105 = rd_close (if v = 0 then none else rd_of Mt) := by rw [e105, if_neg (by omega)]
                  have hz : M105 p 1 = k := by rw [fc p (by omega) (by omega)]; exact hk1
                  have hJ3 := nm_J3 hJ (by omega) ht (s' := if v = 0 then none else rd_of Mt) rfl
                  rw [← e9] at hJ3
                  refine xv_aload_n hX 0 dc_NM_readFrom_108 rfl (rfl : _ = 109) ?_
                  refine xv_getr hX fl_NM_9 rfl hp.1 (xk_N (Nat.lt_of_succ_lt hp.2.2.2.2)) hp.2.2.1 dc_NM_readFrom_109 (rfl : _ = 112) ?_
                  refine xv_aload_n hX 0 dc_NM_readFrom_112 rfl (rfl : _ = 113) ?_
                  refine xv_geti hX fl_NM_15 rfl hp.1 (xk_N (Nat.lt_of_succ_lt hp.2.2.2.2)) (v := M105 p 1) rfl dc_NM_readFrom_113 (rfl : _ = 116) ?_
                  refine xv_lload_n hX 2 dc_NM_readFrom_116 rfl (rfl : _ = 117) ?_
                  refine xv_last hX hp.2.1 (xk_N hp.2.2.2.2) (by omega) (by decide) dc_NM_readFrom_117 (rfl : _ = 118) ?_
                  refine xv_aload_n hX 0 dc_NM_readFrom_118 rfl (rfl : _ = 119) ?_
                  refine xv_dup hX dc_NM_readFrom_119 rfl (rfl : _ = 120) ?_
                  refine xv_geti hX fl_NM_15 rfl hp.1 (xk_N (Nat.lt_of_succ_lt hp.2.2.2.2)) (v := M105 p 1) (xm_np (by omega)) dc_NM_readFrom_120 (rfl : _ = 123) ?_
                  refine xv_iconst hX (v := nI 1) dc_NM_readFrom_123 (by decide) (rfl : _ = 124) ?_
                  refine xv_iadd hX dc_NM_readFrom_124 (nI_add (M105 p 1) 1) (rfl : _ = 125) ?_
                  refine xv_puti hX fl_NM_15 rfl hp.1 (xk_N (Nat.lt_of_succ_lt hp.2.2.2.2)) dc_NM_readFrom_125 (rfl : _ = 128) ?_
                  have hc9 : ∀ q, q < 6 → (xm_set (xm_set M105 (p + 1) (M105 p 1) v) p 1 (M105 p 1 + 1)) q = M105 q := fun q hq => by rw [xm_oth (by omega), xm_oth (by omega)]
                  refine xv_goto hX (pq := 11) dc_NM_readFrom_128 (by decide) ?_
                  refine xv_sub (L' := [(0, .ref (Y.2.2.2 p)), (1, .ref (Y.2.2.2 1))]) [0, 1] rfl ?_
                  exact ih11 (xm_set (xm_set M105 (p + 1) (M105 p 1) v) p 1 (M105 p 1 + 1)) (k + 1) (by omega) (by rw [xm_eq, hz]) (i105.cg hc9) (fun q h1 h2 h3 h4 => by rw [xm_oth h3, xm_oth h4, fc q h1 h2]; exact hF q h1 h2 h3 h4) (by rw [rd_of_cg hc9]; exact nm_O1 hL hpl hf hXX (by omega) hie (v := v) (fun q hq => by rw [xm_oth (show p + 1 ≠ p by omega), xm_row, hz, fc (p + 1) (by omega) (by omega)]) hJ3) (by omega)
                · skip
                  have c97 : v = 0 := (xi_lcmp hv64 (by decide)).mp c97
                  refine xv_aload_n hX 1 dc_NM_readFrom_100 rfl (rfl : _ = 101) ?_
                  refine xv_callv hX (As := []) (rest := []) (ct_RD_refuse _ Y Mt hIt) ml_NM_36 li_RD_refuse rfl (by decide) rfl rfl rfl (by decide) ⟨by decide, by decide⟩ ⟨Nat.le_refl _, Nat.le_refl _⟩ (Nat.le_of_ble_eq_true rfl) dc_NM_readFrom_101 (rfl : _ = 104) (fun M101 p101 => ?_)
                  obtain ⟨i101, f101, e101⟩ := p101
                  refine xv_aload_n hX 1 dc_NM_readFrom_104 rfl (rfl : _ = 105) ?_
                  refine xv_callv hX (As := []) (rest := []) (ct_RD_close _ Y M101 i101) ml_NM_39 li_RD_close rfl (by decide) rfl rfl rfl (by decide) ⟨by decide, by decide⟩ ⟨Nat.le_refl _, Nat.le_refl _⟩ (Nat.le_of_ble_eq_true rfl) dc_NM_readFrom_105 (rfl : _ = 108) (fun M105 p105 => ?_)
                  obtain ⟨i105, f105, e105⟩ := p105
                  have fc : rd_F Mk M105 := hFt.tr (f101.tr f105)
                  have e9 : rd_of M105 = rd_close (if v = 0 then none else rd_of Mt) := by rw [e105, e101, if_pos (by omega)]
                  have hz : M105 p 1 = k := by rw [fc p (by omega) (by omega)]; exact hk1
                  have hJ3 := nm_J3 hJ (by omega) ht (s' := if v = 0 then none else rd_of Mt) rfl
                  rw [← e9] at hJ3
                  refine xv_aload_n hX 0 dc_NM_readFrom_108 rfl (rfl : _ = 109) ?_
                  refine xv_getr hX fl_NM_9 rfl hp.1 (xk_N (Nat.lt_of_succ_lt hp.2.2.2.2)) hp.2.2.1 dc_NM_readFrom_109 (rfl : _ = 112) ?_
                  refine xv_aload_n hX 0 dc_NM_readFrom_112 rfl (rfl : _ = 113) ?_
                  refine xv_geti hX fl_NM_15 rfl hp.1 (xk_N (Nat.lt_of_succ_lt hp.2.2.2.2)) (v := M105 p 1) rfl dc_NM_readFrom_113 (rfl : _ = 116) ?_
                  refine xv_lload_n hX 2 dc_NM_readFrom_116 rfl (rfl : _ = 117) ?_
                  refine xv_last hX hp.2.1 (xk_N hp.2.2.2.2) (by omega) (by decide) dc_NM_readFrom_117 (rfl : _ = 118) ?_
                  refine xv_aload_n hX 0 dc_NM_readFrom_118 rfl (rfl : _ = 119) ?_
                  refine xv_dup hX dc_NM_readFrom_119 rfl (rfl : _ = 120) ?_
                  refine xv_geti hX fl_NM_15 rfl hp.1 (xk_N (Nat.lt_of_succ_lt hp.2.2.2.2)) (v := M105 p 1) (xm_np (by omega)) dc_NM_readFrom_120 (rfl : _ = 123) ?_
                  refine xv_iconst hX (v := nI 1) dc_NM_readFrom_123 (by decide) (rfl : _ = 124) ?_
                  refine xv_iadd hX dc_NM_readFrom_124 (nI_add (M105 p 1) 1) (rfl : _ = 125) ?_
                  refine xv_puti hX fl_NM_15 rfl hp.1 (xk_N (Nat.lt_of_succ_lt hp.2.2.2.2)) dc_NM_readFrom_125 (rfl : _ = 128) ?_
                  have hc9 : ∀ q, q < 6 → (xm_set (xm_set M105 (p + 1) (M105 p 1) v) p 1 (M105 p 1 + 1)) q = M105 q := fun q hq => by rw [xm_oth (by omega), xm_oth (by omega)]
                  refine xv_goto hX (pq := 11) dc_NM_readFrom_128 (by decide) ?_
                  refine xv_sub (L' := [(0, .ref (Y.2.2.2 p)), (1, .ref (Y.2.2.2 1))]) [0, 1] rfl ?_
                  exact ih11 (xm_set (xm_set M105 (p + 1) (M105 p 1) v) p 1 (M105 p 1 + 1)) (k + 1) (by omega) (by rw [xm_eq, hz]) (i105.cg hc9) (fun q h1 h2 h3 h4 => by rw [xm_oth h3, xm_oth h4, fc q h1 h2]; exact hF q h1 h2 h3 h4) (by rw [rd_of_cg hc9]; exact nm_O1 hL hpl hf hXX (by omega) hie (v := v) (fun q hq => by rw [xm_oth (show p + 1 ≠ p by omega), xm_row, hz, fc (p + 1) (by omega) (by omega)]) hJ3) (by omega)
              · skip
                refine xv_aload_n hX 1 dc_NM_readFrom_48 rfl (rfl : _ = 49) ?_
                refine xv_calli hX (As := []) (rest := []) (ct_RD_remaining _ Y Mt hIt) ml_NM_29 li_RD_remaining rfl (by decide) rfl rfl rfl (by decide) ⟨by decide, by decide⟩ ⟨Nat.le_refl _, Nat.le_refl _⟩ (Nat.le_of_ble_eq_true rfl) dc_NM_readFrom_49 (rfl : _ = 52) (fun r49 M49 p49 => ?_)
                rw [p49.1, p49.2]
                have hn2 := rd_rem_le hIt
                refine xv_if_le hX (nI_toInt (by omega)) (tgt := 94) (pq := 55) dc_NM_readFrom_52 (by decide) rfl (fun c52 => ?_) (fun c52 => ?_)
                · skip
                  refine xv_lload_n hX 2 dc_NM_readFrom_94 rfl (rfl : _ = 95) ?_
                  refine xv_lconst hX (v := lN 0) dc_NM_readFrom_95 rfl (rfl : _ = 96) ?_
                  have hv64 := xi_pow8 hv ht
                  refine xv_lcmp hX dc_NM_readFrom_96 (rfl : _ = 97) ?_
                  refine xv_if_ne hX (rfl : (lg_cmp (lN v) (lN 0)).toInt = _) (tgt := 104) (pq := 100) dc_NM_readFrom_97 (by decide) rfl (fun c97 => ?_) (fun c97 => ?_)
                  · skip
                    have c97 : v ≠ 0 := fun h => c97 ((xi_lcmp hv64 (by decide)).mpr h)
                    refine xv_aload_n hX 1 dc_NM_readFrom_104 rfl (rfl : _ = 105) ?_
                    refine xv_callv hX (As := []) (rest := []) (ct_RD_close _ Y Mt hIt) ml_NM_39 li_RD_close rfl (by decide) rfl rfl rfl (by decide) ⟨by decide, by decide⟩ ⟨Nat.le_refl _, Nat.le_refl _⟩ (Nat.le_of_ble_eq_true rfl) dc_NM_readFrom_105 (rfl : _ = 108) (fun M105 p105 => ?_)
                    obtain ⟨i105, f105, e105⟩ := p105
                    have fc : rd_F Mk M105 := hFt.tr f105
                    have e9 : rd_of M105 = rd_close (if v = 0 then none else rd_of Mt) := by rw [e105, if_neg (by omega)]
                    have hz : M105 p 1 = k := by rw [fc p (by omega) (by omega)]; exact hk1
                    have hJ3 := nm_J3 hJ (by omega) ht (s' := if v = 0 then none else rd_of Mt) rfl
                    rw [← e9] at hJ3
                    refine xv_aload_n hX 0 dc_NM_readFrom_108 rfl (rfl : _ = 109) ?_
                    refine xv_getr hX fl_NM_9 rfl hp.1 (xk_N (Nat.lt_of_succ_lt hp.2.2.2.2)) hp.2.2.1 dc_NM_readFrom_109 (rfl : _ = 112) ?_
                    refine xv_aload_n hX 0 dc_NM_readFrom_112 rfl (rfl : _ = 113) ?_
                    refine xv_geti hX fl_NM_15 rfl hp.1 (xk_N (Nat.lt_of_succ_lt hp.2.2.2.2)) (v := M105 p 1) rfl dc_NM_readFrom_113 (rfl : _ = 116) ?_
                    refine xv_lload_n hX 2 dc_NM_readFrom_116 rfl (rfl : _ = 117) ?_
                    refine xv_last hX hp.2.1 (xk_N hp.2.2.2.2) (by omega) (by decide) dc_NM_readFrom_117 (rfl : _ = 118) ?_
                    refine xv_aload_n hX 0 dc_NM_readFrom_118 rfl (rfl : _ = 119) ?_
                    refine xv_dup hX dc_NM_readFrom_119 rfl (rfl : _ = 120) ?_
                    refine xv_geti hX fl_NM_15 rfl hp.1 (xk_N (Nat.lt_of_succ_lt hp.2.2.2.2)) (v := M105 p 1) (xm_np (by omega)) dc_NM_readFrom_120 (rfl : _ = 123) ?_
                    refine xv_iconst hX (v := nI 1) dc_NM_readFrom_123 (by decide) (rfl : _ = 124) ?_
                    refine xv_iadd hX dc_NM_readFrom_124 (nI_add (M105 p 1) 1) (rfl : _ = 125) ?_
                    refine xv_puti hX fl_NM_15 rfl hp.1 (xk_N (Nat.lt_of_succ_lt hp.2.2.2.2)) dc_NM_readFrom_125 (rfl : _ = 128) ?_
                    have hc9 : ∀ q, q < 6 → (xm_set (xm_set M105 (p + 1) (M105 p 1) v) p 1 (M105 p 1 + 1)) q = M105 q := fun q hq => by rw [xm_oth (by omega), xm_oth (by omega)]
                    refine xv_goto hX (pq := 11) dc_NM_readFrom_128 (by decide) ?_
                    refine xv_sub (L' := [(0, .ref (Y.2.2.2 p)), (1, .ref (Y.2.2.2 1))]) [0, 1] rfl ?_
                    exact ih11 (xm_set (xm_set M105 (p + 1) (M105 p 1) v) p 1 (M105 p 1 + 1)) (k + 1) (by omega) (by rw [xm_eq, hz]) (i105.cg hc9) (fun q h1 h2 h3 h4 => by rw [xm_oth h3, xm_oth h4, fc q h1 h2]; exact hF q h1 h2 h3 h4) (by rw [rd_of_cg hc9]; exact nm_O1 hL hpl hf hXX (by omega) hie (v := v) (fun q hq => by rw [xm_oth (show p + 1 ≠ p by omega), xm_row, hz, fc (p + 1) (by omega) (by omega)]) hJ3) (by omega)
                  · skip
                    have c97 : v = 0 := (xi_lcmp hv64 (by decide)).mp c97
                    refine xv_aload_n hX 1 dc_NM_readFrom_100 rfl (rfl : _ = 101) ?_
                    refine xv_callv hX (As := []) (rest := []) (ct_RD_refuse _ Y Mt hIt) ml_NM_36 li_RD_refuse rfl (by decide) rfl rfl rfl (by decide) ⟨by decide, by decide⟩ ⟨Nat.le_refl _, Nat.le_refl _⟩ (Nat.le_of_ble_eq_true rfl) dc_NM_readFrom_101 (rfl : _ = 104) (fun M101 p101 => ?_)
                    obtain ⟨i101, f101, e101⟩ := p101
                    refine xv_aload_n hX 1 dc_NM_readFrom_104 rfl (rfl : _ = 105) ?_
                    refine xv_callv hX (As := []) (rest := []) (ct_RD_close _ Y M101 i101) ml_NM_39 li_RD_close rfl (by decide) rfl rfl rfl (by decide) ⟨by decide, by decide⟩ ⟨Nat.le_refl _, Nat.le_refl _⟩ (Nat.le_of_ble_eq_true rfl) dc_NM_readFrom_105 (rfl : _ = 108) (fun M105 p105 => ?_)
                    obtain ⟨i105, f105, e105⟩ := p105
                    have fc : rd_F Mk M105 := hFt.tr (f101.tr f105)
                    have e9 : rd_of M105 = rd_close (if v = 0 then none else rd_of Mt) := by rw [e105, e101, if_pos (by omega)]
                    have hz : M105 p 1 = k := by rw [fc p (by omega) (by omega)]; exact hk1
                    have hJ3 := nm_J3 hJ (by omega) ht (s' := if v = 0 then none else rd_of Mt) rfl
                    rw [← e9] at hJ3
                    refine xv_aload_n hX 0 dc_NM_readFrom_108 rfl (rfl : _ = 109) ?_
                    refine xv_getr hX fl_NM_9 rfl hp.1 (xk_N (Nat.lt_of_succ_lt hp.2.2.2.2)) hp.2.2.1 dc_NM_readFrom_109 (rfl : _ = 112) ?_
                    refine xv_aload_n hX 0 dc_NM_readFrom_112 rfl (rfl : _ = 113) ?_
                    refine xv_geti hX fl_NM_15 rfl hp.1 (xk_N (Nat.lt_of_succ_lt hp.2.2.2.2)) (v := M105 p 1) rfl dc_NM_readFrom_113 (rfl : _ = 116) ?_
                    refine xv_lload_n hX 2 dc_NM_readFrom_116 rfl (rfl : _ = 117) ?_
                    refine xv_last hX hp.2.1 (xk_N hp.2.2.2.2) (by omega) (by decide) dc_NM_readFrom_117 (rfl : _ = 118) ?_
                    refine xv_aload_n hX 0 dc_NM_readFrom_118 rfl (rfl : _ = 119) ?_
                    refine xv_dup hX dc_NM_readFrom_119 rfl (rfl : _ = 120) ?_
                    refine xv_geti hX fl_NM_15 rfl hp.1 (xk_N (Nat.lt_of_succ_lt hp.2.2.2.2)) (v := M105 p 1) (xm_np (by omega)) dc_NM_readFrom_120 (rfl : _ = 123) ?_
                    refine xv_iconst hX (v := nI 1) dc_NM_readFrom_123 (by decide) (rfl : _ = 124) ?_
                    refine xv_iadd hX dc_NM_readFrom_124 (nI_add (M105 p 1) 1) (rfl : _ = 125) ?_
                    refine xv_puti hX fl_NM_15 rfl hp.1 (xk_N (Nat.lt_of_succ_lt hp.2.2.2.2)) dc_NM_readFrom_125 (rfl : _ = 128) ?_
                    have hc9 : ∀ q, q < 6 → (xm_set (xm_set M105 (p + 1) (M105 p 1) v) p 1 (M105 p 1 + 1)) q = M105 q := fun q hq => by rw [xm_oth (by omega), xm_oth (by omega)]
                    refine xv_goto hX (pq := 11) dc_NM_readFrom_128 (by decide) ?_
                    refine xv_sub (L' := [(0, .ref (Y.2.2.2 p)), (1, .ref (Y.2.2.2 1))]) [0, 1] rfl ?_
                    exact ih11 (xm_set (xm_set M105 (p + 1) (M105 p 1) v) p 1 (M105 p 1 + 1)) (k + 1) (by omega) (by rw [xm_eq, hz]) (i105.cg hc9) (fun q h1 h2 h3 h4 => by rw [xm_oth h3, xm_oth h4, fc q h1 h2]; exact hF q h1 h2 h3 h4) (by rw [rd_of_cg hc9]; exact nm_O1 hL hpl hf hXX (by omega) hie (v := v) (fun q hq => by rw [xm_oth (show p + 1 ≠ p by omega), xm_row, hz, fc (p + 1) (by omega) (by omega)]) hJ3) (by omega)
                · skip
                  refine xv_aload_n hX 1 dc_NM_readFrom_55 rfl (rfl : _ = 56) ?_
                  refine xv_calli hX (As := []) (rest := []) (ct_RD_readByte _ Y Mt hIt) ml_NM_33 li_RD_readByte rfl (by decide) rfl rfl rfl (by decide) ⟨by decide, by decide⟩ ⟨Nat.le_refl _, Nat.le_refl _⟩ (Nat.le_of_ble_eq_true rfl) dc_NM_readFrom_56 (rfl : _ = 59) (fun r56 M56 p56 => ?_)
                  obtain ⟨⟨i56, f56, e56⟩, z56⟩ := p56
                  have bt : Mt 3 = M 3 := by rw [hFt 3 (by decide) (by decide), bk]
                  rw [bt] at z56
                  have hw1 : rd_byte (M 3) (rd_of Mt) < 256 := by have h := rd_byte_lt hIt; rw [bt] at h; exact h
                  obtain ⟨w, hw⟩ : ∃ w, rd_byte (M 3) (rd_of Mt) = w := ⟨_, rfl⟩
                  rw [z56, hw]
                  rw [hw] at hw1
                  refine xv_istore hX [1, 2, 3, 4, 0] dc_NM_readFrom_59 (by decide) (L' := [(0, .ref (Y.2.2.2 p)), (1, .ref (Y.2.2.2 1)), (2, .long (lN v)), (4, .int (nI t)), (5, .int (nI w))]) rfl (rfl : _ = 61) ?_
                  refine xv_iload hX 4 dc_NM_readFrom_61 rfl (rfl : _ = 63) ?_
                  refine xv_bipush hX (v := nI 97) dc_NM_readFrom_63 (by decide) (rfl : _ = 65) ?_
                  refine xv_icmp_lt hX (nI_toInt (by omega)) (show (nI 97).toInt = 97 by decide) (tgt := 75) (pq := 68) dc_NM_readFrom_65 (by decide) rfl (fun c65 => ?_) (fun c65 => ?_)
                  · skip
                    refine xv_aload_n hX 1 dc_NM_readFrom_75 rfl (rfl : _ = 76) ?_
                    refine xv_callv hX (As := []) (rest := []) (ct_RD_refuse _ Y M56 i56) ml_NM_36 li_RD_refuse rfl (by decide) rfl rfl rfl (by decide) ⟨by decide, by decide⟩ ⟨Nat.le_refl _, Nat.le_refl _⟩ (Nat.le_of_ble_eq_true rfl) dc_NM_readFrom_76 (rfl : _ = 79) (fun M76 p76 => ?_)
                    obtain ⟨i76, f76, e76⟩ := p76
                    refine xv_lload_n hX 2 dc_NM_readFrom_79 rfl (rfl : _ = 80) ?_
                    refine xv_bipush hX (v := nI 8) dc_NM_readFrom_80 (by decide) (rfl : _ = 82) ?_
                    refine xv_lshl hX dc_NM_readFrom_82 (xi_lshl8 _) (rfl : _ = 83) ?_
                    refine xv_iload hX 4 dc_NM_readFrom_83 rfl (rfl : _ = 85) ?_
                    refine xv_i2l hX dc_NM_readFrom_85 (nI_l (by omega)) (rfl : _ = 86) ?_
                    refine xv_lor hX dc_NM_readFrom_86 (xi_lor8 hw1) (rfl : _ = 87) ?_
                    refine xv_lstore_n hX [1, 2, 0, 3, 4] dc_NM_readFrom_87 (by decide) (L' := [(0, .ref (Y.2.2.2 p)), (1, .ref (Y.2.2.2 1)), (2, .long (lN (v * 256 + w))), (4, .int (nI t)), (5, .int (nI w))]) rfl (rfl : _ = 88) ?_
                    refine xv_iinc hX 3 [1, 2, 3, 0, 4] dc_NM_readFrom_88 rfl (xi_inc t 1) (by decide) (L' := [(0, .ref (Y.2.2.2 p)), (1, .ref (Y.2.2.2 1)), (2, .long (lN (v * 256 + w))), (4, .int (nI (t + 1))), (5, .int (nI w))]) rfl (rfl : _ = 91) ?_
                    refine xv_goto hX (pq := 41) dc_NM_readFrom_91 (by decide) ?_
                    refine xv_sub (L' := [(0, .ref (Y.2.2.2 p)), (1, .ref (Y.2.2.2 1)), (2, .long (lN (v * 256 + w))), (4, .int (nI (t + 1)))]) [0, 1, 2, 3] rfl ?_
                    exact ih41 M76 (v * 256 + w) (t + 1) (by omega) i76 ((hFt.tr f56).tr f76) (by rw [e76]; exact nm_J2 hJ (by omega) (by rw [hw]; omega)) (by rw [Nat.pow_succ]; omega) (by omega)
                  · skip
                    refine xv_iload hX 4 dc_NM_readFrom_68 rfl (rfl : _ = 70) ?_
                    refine xv_bipush hX (v := nI 122) dc_NM_readFrom_70 (by decide) (rfl : _ = 72) ?_
                    refine xv_icmp_le hX (nI_toInt (by omega)) (show (nI 122).toInt = 122 by decide) (tgt := 79) (pq := 75) dc_NM_readFrom_72 (by decide) rfl (fun c72 => ?_) (fun c72 => ?_)
                    · skip
                      refine xv_lload_n hX 2 dc_NM_readFrom_79 rfl (rfl : _ = 80) ?_
                      refine xv_bipush hX (v := nI 8) dc_NM_readFrom_80 (by decide) (rfl : _ = 82) ?_
                      refine xv_lshl hX dc_NM_readFrom_82 (xi_lshl8 _) (rfl : _ = 83) ?_
                      refine xv_iload hX 4 dc_NM_readFrom_83 rfl (rfl : _ = 85) ?_
                      refine xv_i2l hX dc_NM_readFrom_85 (nI_l (by omega)) (rfl : _ = 86) ?_
                      refine xv_lor hX dc_NM_readFrom_86 (xi_lor8 hw1) (rfl : _ = 87) ?_
                      refine xv_lstore_n hX [1, 2, 0, 3, 4] dc_NM_readFrom_87 (by decide) (L' := [(0, .ref (Y.2.2.2 p)), (1, .ref (Y.2.2.2 1)), (2, .long (lN (v * 256 + w))), (4, .int (nI t)), (5, .int (nI w))]) rfl (rfl : _ = 88) ?_
                      refine xv_iinc hX 3 [1, 2, 3, 0, 4] dc_NM_readFrom_88 rfl (xi_inc t 1) (by decide) (L' := [(0, .ref (Y.2.2.2 p)), (1, .ref (Y.2.2.2 1)), (2, .long (lN (v * 256 + w))), (4, .int (nI (t + 1))), (5, .int (nI w))]) rfl (rfl : _ = 91) ?_
                      refine xv_goto hX (pq := 41) dc_NM_readFrom_91 (by decide) ?_
                      refine xv_sub (L' := [(0, .ref (Y.2.2.2 p)), (1, .ref (Y.2.2.2 1)), (2, .long (lN (v * 256 + w))), (4, .int (nI (t + 1)))]) [0, 1, 2, 3] rfl ?_
                      exact ih41 M56 (v * 256 + w) (t + 1) (by omega) i56 (hFt.tr f56) (by rw [e56, ← hw]; exact nm_J1 hJ (by omega) (by rw [hw]; omega)) (by rw [Nat.pow_succ]; omega) (by omega)
                    · skip
                      refine xv_aload_n hX 1 dc_NM_readFrom_75 rfl (rfl : _ = 76) ?_
                      refine xv_callv hX (As := []) (rest := []) (ct_RD_refuse _ Y M56 i56) ml_NM_36 li_RD_refuse rfl (by decide) rfl rfl rfl (by decide) ⟨by decide, by decide⟩ ⟨Nat.le_refl _, Nat.le_refl _⟩ (Nat.le_of_ble_eq_true rfl) dc_NM_readFrom_76 (rfl : _ = 79) (fun M76 p76 => ?_)
                      obtain ⟨i76, f76, e76⟩ := p76
                      refine xv_lload_n hX 2 dc_NM_readFrom_79 rfl (rfl : _ = 80) ?_
                      refine xv_bipush hX (v := nI 8) dc_NM_readFrom_80 (by decide) (rfl : _ = 82) ?_
                      refine xv_lshl hX dc_NM_readFrom_82 (xi_lshl8 _) (rfl : _ = 83) ?_
                      refine xv_iload hX 4 dc_NM_readFrom_83 rfl (rfl : _ = 85) ?_
                      refine xv_i2l hX dc_NM_readFrom_85 (nI_l (by omega)) (rfl : _ = 86) ?_
                      refine xv_lor hX dc_NM_readFrom_86 (xi_lor8 hw1) (rfl : _ = 87) ?_
                      refine xv_lstore_n hX [1, 2, 0, 3, 4] dc_NM_readFrom_87 (by decide) (L' := [(0, .ref (Y.2.2.2 p)), (1, .ref (Y.2.2.2 1)), (2, .long (lN (v * 256 + w))), (4, .int (nI t)), (5, .int (nI w))]) rfl (rfl : _ = 88) ?_
                      refine xv_iinc hX 3 [1, 2, 3, 0, 4] dc_NM_readFrom_88 rfl (xi_inc t 1) (by decide) (L' := [(0, .ref (Y.2.2.2 p)), (1, .ref (Y.2.2.2 1)), (2, .long (lN (v * 256 + w))), (4, .int (nI (t + 1))), (5, .int (nI w))]) rfl (rfl : _ = 91) ?_
                      refine xv_goto hX (pq := 41) dc_NM_readFrom_91 (by decide) ?_
                      refine xv_sub (L' := [(0, .ref (Y.2.2.2 p)), (1, .ref (Y.2.2.2 1)), (2, .long (lN (v * 256 + w))), (4, .int (nI (t + 1)))]) [0, 1, 2, 3] rfl ?_
                      exact ih41 M76 (v * 256 + w) (t + 1) (by omega) i76 ((hFt.tr f56).tr f76) (by rw [e76]; exact nm_J2 hJ (by omega) (by rw [hw]; omega)) (by rw [Nat.pow_succ]; omega) (by omega)
          refine xv_sub (L' := [(0, .ref (Y.2.2.2 p)), (1, .ref (Y.2.2.2 1)), (2, .long (lN 0)), (4, .int (nI 0))]) [0, 1, 2, 3] rfl ?_
          exact lpI _ M33 0 0 (by decide) i33 f33 hJ0 (by decide) (Nat.lt_succ_self _)
  refine xv_sub (L' := [(0, .ref (Y.2.2.2 p)), (1, .ref (Y.2.2.2 1))]) [0, 1] rfl ?_
  exact lpO _ M8 0 (by decide) (by rw [f8 p (by omega) (by omega)]; exact xm_eq) i8 (fun q h1 h2 h3 h4 => by rw [f8 q h1 h2, xm_oth h3]) (by rw [e8]; exact nm_O0 hd) (Nat.lt_succ_self _)
end
section
/-! NameList: covers, read -/
def nm_ok (M : xm_M) (p : Nat) : Prop := M p 1 ≤ 4 ∧ ∀ m, m < M p 1 → M (p + 1) m < 18446744073709551616

set_option maxRecDepth 100000 in
set_option maxHeartbeats 4000000 in
theorem ct_NL_covers (l : Launch) (Y : xw_Y) (M : xm_M) (p q : Nat) (hp : xk_nl p) (hq : xk_nm q) (h1 : M p 1 ≤ 3) (h2 : ∀ k, k < M p 1 → nm_ok M (p + 2 + 2 * k)) (h3 : nm_ok M q) : xc_i l qm_NL_covers 1 Y [.ref (Y.2.2.2 p), .ref (Y.2.2.2 q)] M (fun r M1 => M1 = M ∧ ∃ t : Nat, r = nI t ∧ t < 2 ∧ (t = 1 ↔ ∃ k, k < M p 1 ∧ nm_wi M q (p + 2 + 2 * k))) := by
  refine xc_i.mk .boolean rfl (by decide) (Nat.le_of_ble_eq_true rfl) ?_
  intro X hXl hX hR
  subst hXl
  have hX : xv_ok X Y prog_6_method_2_code "CertificatePath$NameList" 3 (xc_rm 1) := hX
  show xv_V X Y 3 0 0 xw_lk xw_N M 0 [(0, .ref (Y.2.2.2 p)), (1, .ref (Y.2.2.2 q))] []
  refine xv_iconst hX (v := nI 0) dc_NL_covers_0 (by decide) (rfl : _ = 1) ?_
  refine xv_istore_n hX [1, 2, 0] dc_NL_covers_1 (by decide) (L' := [(0, .ref (Y.2.2.2 p)), (1, .ref (Y.2.2.2 q)), (2, .int (nI 0))]) rfl (rfl : _ = 2) ?_
  have lp2 : ∀ (n : Nat) (k : Nat) (hk : k ≤ M p 1) (he : ∀ m, m < k → ¬ nm_wi M q (p + 2 + 2 * m)), M p 1 - k < n → xv_V X Y 3 0 0 xw_lk xw_N M 2 [(0, .ref (Y.2.2.2 p)), (1, .ref (Y.2.2.2 q)), (2, .int (nI k))] [] := by
    intro n2
    induction n2 with
    | zero => intro k hk he hm2; exact absurd hm2 (Nat.not_lt_zero _)
    | succ n2 ih2 =>
      intro k hk he hm2
      refine xv_iload_n hX 2 dc_NL_covers_2 rfl (rfl : _ = 3) ?_
      refine xv_aload_n hX 0 dc_NL_covers_3 rfl (rfl : _ = 4) ?_
      refine xv_geti hX fl_NL_18 rfl hp.1 (xk_N (by have := hp.2.2.2.2.2; omega)) (v := M p 1) rfl dc_NL_covers_4 (rfl : _ = 7) ?_
      refine xv_icmp_ge hX (nI_toInt (by omega)) (nI_toInt (by omega)) (tgt := 31) (pq := 10) dc_NL_covers_7 (by decide) rfl (fun c7 => ?_) (fun c7 => ?_)
      · skip
        refine xv_iconst hX (v := nI 0) dc_NL_covers_31 (by decide) (rfl : _ = 32) ?_
        refine xv_reti hX hR (by decide) dc_NL_covers_32 ?_
        exact ⟨rfl, 0, rfl, by decide, by simp, fun ⟨m, hm, hw⟩ => absurd hw (he m (by omega))⟩
      · skip
        refine xv_aload_n hX 1 dc_NL_covers_10 rfl (rfl : _ = 11) ?_
        refine xv_aload_n hX 0 dc_NL_covers_11 rfl (rfl : _ = 12) ?_
        refine xv_getr hX fl_NL_11 rfl hp.1 (xk_N (by have := hp.2.2.2.2.2; omega)) hp.2.2.1 dc_NL_covers_12 (rfl : _ = 15) ?_
        refine xv_iload_n hX 2 dc_NL_covers_15 rfl (rfl : _ = 16) ?_
        refine xv_aald hX hp.2.1 (C := xw_A3) rfl (xk_N (by have := hp.2.2.2.2.2; omega)) (by omega) (by decide) (v := p + 2 + 2 * k) ((hp.2.2.2.1 _ (by omega)).1) dc_NL_covers_16 (rfl : _ = 17) ?_
        refine xv_calli hX (As := [.ref (Y.2.2.2 (p + 2 + 2 * k))]) (rest := []) (ct_NM_isWithin _ Y M q (p + 2 + 2 * k) hq (hp.2.2.2.1 k (by omega)).2 h3.1 (h2 k (by omega)).1 h3.2 (h2 k (by omega)).2) ml_NL_22 li_NM_isWithin hq.1 (xk_N (Nat.lt_of_succ_lt hq.2.2.2.2)) rfl rfl rfl (by decide) ⟨by decide, by decide⟩ ⟨Nat.le_refl _, Nat.le_refl _⟩ (Nat.le_of_ble_eq_true rfl) dc_NL_covers_17 (rfl : _ = 20) (fun r17 M17 p17 => ?_)
        obtain ⟨pM, t, pr, pt, pi⟩ := p17
        rw [pM, pr]
        refine xv_if_eq hX (nI_toInt (by omega)) (tgt := 25) (pq := 23) dc_NL_covers_20 (by decide) rfl (fun c20 => ?_) (fun c20 => ?_)
        · skip
          refine xv_iinc hX 2 [1, 2, 0] dc_NL_covers_25 rfl (xi_inc k 1) (by decide) (L' := [(0, .ref (Y.2.2.2 p)), (1, .ref (Y.2.2.2 q)), (2, .int (nI (k + 1)))]) rfl (rfl : _ = 28) ?_
          refine xv_goto hX (pq := 2) dc_NL_covers_28 (by decide) ?_
          refine xv_sub (L' := [(0, .ref (Y.2.2.2 p)), (1, .ref (Y.2.2.2 q)), (2, .int (nI (k + 1)))]) [0, 1, 2] rfl ?_
          exact ih2 (k + 1) (by omega) (fun m hm => by rcases Nat.lt_or_eq_of_le (Nat.le_of_lt_succ hm) with h | h; exact he m h; rw [h]; exact fun z => absurd (pi.mpr z) (by omega)) (by omega)
        · skip
          refine xv_iconst hX (v := nI 1) dc_NL_covers_23 (by decide) (rfl : _ = 24) ?_
          refine xv_reti hX hR (by decide) dc_NL_covers_24 ?_
          exact ⟨rfl, 1, rfl, by decide, fun _ => ⟨k, by omega, pi.mp (by omega)⟩, fun _ => rfl⟩
  refine xv_sub (L' := [(0, .ref (Y.2.2.2 p)), (1, .ref (Y.2.2.2 q)), (2, .int (nI 0))]) [0, 1, 2] rfl ?_
  exact lp2 _ 0 (Nat.zero_le _) (fun m hm => absurd hm (Nat.not_lt_zero _)) (Nat.lt_succ_self _)

set_option maxRecDepth 100000 in
set_option maxHeartbeats 4000000 in
theorem ct_NL_readIfThere (l : Launch) (Y : xw_Y) (M : xm_M) (p tag : Nat) (hp : xk_nl p) (ht : tag < 256) (hI : rd_I M) (hd : rd_D 3 (rd_of M)) : xc_v l qm_NL_readIfThere 2 Y [.ref (Y.2.2.2 p), .ref (Y.2.2.2 1), .int (nI tag)] M (fun M1 => rd_I M1 ∧ nl_F p M M1 ∧ M1 p 1 ≤ 3 ∧ ((rd_of M1 = none ∧ rd_run (ps_list (M 3) tag) (rd_of M) = none) ∨ ∃ x s, rd_run (ps_list (M 3) tag) (rd_of M) = some (x, s) ∧ rd_of M1 = some s ∧ nl_is M1 p x)) := by
  refine xc_v.mk rfl (by decide) (Nat.le_of_ble_eq_true rfl) ?_
  intro X hXl hX hR
  subst hXl
  have hX : xv_ok X Y prog_6_method_3_code "CertificatePath$NameList" 3 (xc_rm 2) := hX
  show xv_V X Y 3 0 0 xw_lk xw_N M 0 [(0, .ref (Y.2.2.2 p)), (1, .ref (Y.2.2.2 1)), (2, .int (nI tag))] []
  have hp6 := hp.2.2.2.2.1
  have hc0 : ∀ q, q < 6 → (xm_set M p 1 0) q = M q := fun q hq => xm_oth (by omega)
  have hI0 : rd_I (xm_set M p 1 0) := hI.cg hc0
  have ho0 : rd_of (xm_set M p 1 0) = rd_of M := rd_of_cg hc0
  refine xv_aload_n hX 0 dc_NL_readIfThere_0 rfl (rfl : _ = 1) ?_
  refine xv_iconst hX (v := nI 0) dc_NL_readIfThere_1 (by decide) (rfl : _ = 2) ?_
  refine xv_puti hX fl_NL_18 rfl hp.1 (xk_N (by have := hp.2.2.2.2.2; omega)) dc_NL_readIfThere_2 (rfl : _ = 5) ?_
  refine xv_aload_n hX 1 dc_NL_readIfThere_5 rfl (rfl : _ = 6) ?_
  refine xv_iload_n hX 2 dc_NL_readIfThere_6 rfl (rfl : _ = 7) ?_
  refine xv_calli hX (As := [.int (nI tag)]) (rest := []) (ct_RD_nextIs _ Y (xm_set M p 1 0) tag hI0 ht) ml_NL_26 li_RD_nextIs rfl (by decide) rfl rfl rfl (by decide) ⟨by decide, by decide⟩ ⟨Nat.le_refl _, Nat.le_refl _⟩ (Nat.le_of_ble_eq_true rfl) dc_NL_readIfThere_7 (rfl : _ = 10) (fun r7 M7 p7 => ?_)
  rw [ho0, hc0 3 (by decide)] at p7
  rw [p7.1, p7.2]
  have hif : (if rd_is (M 3) tag (rd_of M) = true then 1 else 0) < 2 := by split <;> decide
  refine xv_if_ne hX (nI_toInt (by omega)) (tgt := 14) (pq := 13) dc_NL_readIfThere_10 (by decide) rfl (fun c10 => ?_) (fun c10 => ?_)
  · skip
    have hc : rd_is (M 3) tag (rd_of M) = true := by cases h : rd_is (M 3) tag (rd_of M) with
      | true => rfl
      | false => rw [h] at c10; simp at c10
    refine xv_aload_n hX 1 dc_NL_readIfThere_14 rfl (rfl : _ = 15) ?_
    refine xv_iload_n hX 2 dc_NL_readIfThere_15 rfl (rfl : _ = 16) ?_
    refine xv_callv hX (As := [.int (nI tag)]) (rest := []) (ct_RD_open _ Y (xm_set M p 1 0) tag hI0 ht) ml_NL_32 li_RD_open rfl (by decide) rfl rfl rfl (by decide) ⟨by decide, by decide⟩ ⟨Nat.le_refl _, Nat.le_refl _⟩ (Nat.le_of_ble_eq_true rfl) dc_NL_readIfThere_16 (rfl : _ = 19) (fun M16 p16 => ?_)
    obtain ⟨i16, f16, e16⟩ := p16
    rw [ho0, hc0 3 (by decide)] at e16
    have lp19 : ∀ (n : Nat) (Mk : xm_M) (k : Nat) (hk : k ≤ 2) (hk1 : Mk p 1 = k) (hIk : rd_I Mk) (hF : nl_F p M Mk) (hO : nl_O (M 3) (rd_run (ps_list (M 3) tag) (rd_of M)) Mk p (rd_of Mk) k), 2 - k < n → xv_V X Y 3 0 0 xw_lk xw_N Mk 19 [(0, .ref (Y.2.2.2 p)), (1, .ref (Y.2.2.2 1)), (2, .int (nI tag))] [] := by
      intro n19
      induction n19 with
      | zero => intro Mk k hk hk1 hIk hF hO hm19; exact absurd hm19 (Nat.not_lt_zero _)
      | succ n19 ih19 =>
        intro Mk k hk hk1 hIk hF hO hm19
        refine xv_aload_n hX 0 dc_NL_readIfThere_19 rfl (rfl : _ = 20) ?_
        refine xv_getr hX fl_NL_11 rfl hp.1 (xk_N (by have := hp.2.2.2.2.2; omega)) hp.2.2.1 dc_NL_readIfThere_20 (rfl : _ = 23) ?_
        refine xv_aload_n hX 0 dc_NL_readIfThere_23 rfl (rfl : _ = 24) ?_
        refine xv_geti hX fl_NL_18 rfl hp.1 (xk_N (by have := hp.2.2.2.2.2; omega)) (v := Mk p 1) rfl dc_NL_readIfThere_24 (rfl : _ = 27) ?_
        refine xv_aald hX hp.2.1 (C := xw_A3) rfl (xk_N (by have := hp.2.2.2.2.2; omega)) (by omega) (by decide) (v := p + 2 + 2 * (Mk p 1)) ((hp.2.2.2.1 _ (by omega)).1) dc_NL_readIfThere_27 (rfl : _ = 28) ?_
        have hnm : xk_nm (p + 2 + 2 * Mk p 1) := (hp.2.2.2.1 _ (by omega)).2
        have bk : Mk 3 = M 3 := hF 3 (by decide) (by decide) (by omega)
        refine xv_aload_n hX 1 dc_NL_readIfThere_28 rfl (rfl : _ = 29) ?_
        refine xv_callv hX (As := [.ref (Y.2.2.2 1)]) (rest := []) (ct_NM_readFrom _ Y Mk (p + 2 + 2 * Mk p 1) hnm hIk (nl_D hO)) ml_NL_36 li_NM_readFrom hnm.1 (xk_N (Nat.lt_of_succ_lt hnm.2.2.2.2)) rfl rfl rfl (by decide) ⟨by decide, by decide⟩ ⟨Nat.le_refl _, Nat.le_refl _⟩ (Nat.le_of_ble_eq_true rfl) dc_NL_readIfThere_29 (rfl : _ = 32) (fun M29 p29 => ?_)
        rw [hk1] at p29
        obtain ⟨i29, f29, -, e29⟩ := p29
        rw [bk] at e29
        have hz : M29 p 1 = k := by rw [f29 p (by omega) (by omega) (by omega) (by omega)]; exact hk1
        have hc9 : ∀ q, q < 6 → (xm_set M29 p 1 (M29 p 1 + 1)) q = M29 q := fun q hq => xm_oth (by omega)
        have i9 : rd_I (xm_set M29 p 1 (M29 p 1 + 1)) := i29.cg hc9
        have o9 : rd_of (xm_set M29 p 1 (M29 p 1 + 1)) = rd_of M29 := rd_of_cg hc9
        have hP9 : nl_P (M 3) (rd_run (ps_list (M 3) tag) (rd_of M)) (xm_set M29 p 1 (M29 p 1 + 1)) p (rd_of (xm_set M29 p 1 (M29 p 1 + 1))) (k + 1) := by
          rw [o9]
          refine nl_O1 hO hk (M' := (xm_set M29 p 1 (M29 p 1 + 1))) (fun q hq => ⟨by rw [xm_oth (by omega), f29 _ (by omega) (by omega) (by omega) (by omega)], by rw [xm_oth (by omega), f29 _ (by omega) (by omega) (by omega) (by omega)]⟩) ?_
          rcases e29 with h | ⟨x, t, h1, h2, h3⟩
          · exact Or.inl h
          · refine Or.inr ⟨x, t, h1, h2, ?_⟩
            unfold nm_is
            rw [xm_oth (by omega), xm_oth (by omega)]
            exact h3
        have hF9 : nl_F p M (xm_set M29 p 1 (M29 p 1 + 1)) := fun q a1 a2 a3 => by rw [xm_oth (by omega), f29 q a1 a2 (by omega) (by omega)]; exact hF q a1 a2 a3
        refine xv_aload_n hX 0 dc_NL_readIfThere_32 rfl (rfl : _ = 33) ?_
        refine xv_dup hX dc_NL_readIfThere_33 rfl (rfl : _ = 34) ?_
        refine xv_geti hX fl_NL_18 rfl hp.1 (xk_N (by have := hp.2.2.2.2.2; omega)) (v := M29 p 1) rfl dc_NL_readIfThere_34 (rfl : _ = 37) ?_
        refine xv_iconst hX (v := nI 1) dc_NL_readIfThere_37 (by decide) (rfl : _ = 38) ?_
        refine xv_iadd hX dc_NL_readIfThere_38 (nI_add (M29 p 1) 1) (rfl : _ = 39) ?_
        refine xv_puti hX fl_NL_18 rfl hp.1 (xk_N (by have := hp.2.2.2.2.2; omega)) dc_NL_readIfThere_39 (rfl : _ = 42) ?_
        refine xv_aload_n hX 1 dc_NL_readIfThere_42 rfl (rfl : _ = 43) ?_
        refine xv_calli hX (As := []) (rest := []) (ct_RD_remaining _ Y (xm_set M29 p 1 (M29 p 1 + 1)) i9) ml_NL_40 li_RD_remaining rfl (by decide) rfl rfl rfl (by decide) ⟨by decide, by decide⟩ ⟨Nat.le_refl _, Nat.le_refl _⟩ (Nat.le_of_ble_eq_true rfl) dc_NL_readIfThere_43 (rfl : _ = 46) (fun r43 M43 p43 => ?_)
        rw [p43.1, p43.2]
        have hn := rd_rem_le i9
        refine xv_if_le hX (nI_toInt (by omega)) (tgt := 61) (pq := 49) dc_NL_readIfThere_46 (by decide) rfl (fun c46 => ?_) (fun c46 => ?_)
        · skip
          refine xv_aload_n hX 1 dc_NL_readIfThere_61 rfl (rfl : _ = 62) ?_
          refine xv_callv hX (As := []) (rest := []) (ct_RD_close _ Y (xm_set M29 p 1 (M29 p 1 + 1)) i9) ml_NL_44 li_RD_close rfl (by decide) rfl rfl rfl (by decide) ⟨by decide, by decide⟩ ⟨Nat.le_refl _, Nat.le_refl _⟩ (Nat.le_of_ble_eq_true rfl) dc_NL_readIfThere_62 (rfl : _ = 65) (fun M62 p62 => ?_)
          obtain ⟨i62, f62, e62⟩ := p62
          refine xv_retv hX hR dc_NL_readIfThere_65 ?_
          have hx := nl_P2 hP9 (by omega) (by omega) (fun i l ls h => (rd_at_le i9 h).1)
          rw [← e62] at hx
          have hz9 : M62 p 1 = k + 1 := by rw [f62 p (by omega) (by omega), xm_eq, hz]
          refine ⟨i62, hF9.tr (nl_F.of f62), by omega, ?_⟩
          rcases hx with h | ⟨x, j, h1, h2, h3, h4⟩
          · exact Or.inl h
          · refine Or.inr ⟨x, j, h1, h2, by omega, fun q hq => ?_⟩
            have h9 := h4 q (by omega)
            unfold nm_is at h9 ⊢
            rw [f62 _ (by omega) (by omega), f62 _ (by omega) (by omega)]
            exact h9
        · skip
          refine xv_aload_n hX 0 dc_NL_readIfThere_49 rfl (rfl : _ = 50) ?_
          refine xv_geti hX fl_NL_18 rfl hp.1 (xk_N (by have := hp.2.2.2.2.2; omega)) (v := M29 p 1 + 1) xm_eq dc_NL_readIfThere_50 (rfl : _ = 53) ?_
          refine xv_aload_n hX 0 dc_NL_readIfThere_53 rfl (rfl : _ = 54) ?_
          refine xv_getr hX fl_NL_11 rfl hp.1 (xk_N (by have := hp.2.2.2.2.2; omega)) hp.2.2.1 dc_NL_readIfThere_54 (rfl : _ = 57) ?_
          refine xv_alen hX (n := 3) hp.2.1 ⟨_, rfl⟩ (xk_N (by have := hp.2.2.2.2.2; omega)) dc_NL_readIfThere_57 (rfl : _ = 58) ?_
          refine xv_icmp_lt hX (nI_toInt (by omega)) (show (nI 3).toInt = 3 by decide) (tgt := 19) (pq := 61) dc_NL_readIfThere_58 (by decide) rfl (fun c58 => ?_) (fun c58 => ?_)
          · skip
            refine xv_sub (L' := [(0, .ref (Y.2.2.2 p)), (1, .ref (Y.2.2.2 1)), (2, .int (nI tag))]) [0, 1, 2] rfl ?_
            exact ih19 (xm_set M29 p 1 (M29 p 1 + 1)) (k + 1) (by omega) (by rw [xm_eq, hz]) i9 hF9 (nl_P1 hP9 (by omega) (by omega)) (by omega)
          · skip
            refine xv_aload_n hX 1 dc_NL_readIfThere_61 rfl (rfl : _ = 62) ?_
            refine xv_callv hX (As := []) (rest := []) (ct_RD_close _ Y (xm_set M29 p 1 (M29 p 1 + 1)) i9) ml_NL_44 li_RD_close rfl (by decide) rfl rfl rfl (by decide) ⟨by decide, by decide⟩ ⟨Nat.le_refl _, Nat.le_refl _⟩ (Nat.le_of_ble_eq_true rfl) dc_NL_readIfThere_62 (rfl : _ = 65) (fun M62 p62 => ?_)
            obtain ⟨i62, f62, e62⟩ := p62
            refine xv_retv hX hR dc_NL_readIfThere_65 ?_
            have hx := nl_P2 hP9 (by omega) (by omega) (fun i l ls h => (rd_at_le i9 h).1)
            rw [← e62] at hx
            have hz9 : M62 p 1 = k + 1 := by rw [f62 p (by omega) (by omega), xm_eq, hz]
            refine ⟨i62, hF9.tr (nl_F.of f62), by omega, ?_⟩
            rcases hx with h | ⟨x, j, h1, h2, h3, h4⟩
            · exact Or.inl h
            · refine Or.inr ⟨x, j, h1, h2, by omega, fun q hq => ?_⟩
              have h9 := h4 q (by omega)
              unfold nm_is at h9 ⊢
              rw [f62 _ (by omega) (by omega), f62 _ (by omega) (by omega)]
              exact h9
    refine xv_sub (L' := [(0, .ref (Y.2.2.2 p)), (1, .ref (Y.2.2.2 1)), (2, .int (nI tag))]) [0, 1, 2] rfl ?_
    exact lp19 _ M16 0 (by decide) (by rw [f16 p (by omega) (by omega)]; exact xm_eq) i16 (fun q h1 h2 h3 => by rw [f16 q h1 h2, xm_oth (by omega)]) (by rw [e16]; exact nl_O0 hd hc) (Nat.lt_succ_self _)
  · skip
    have hc : rd_is (M 3) tag (rd_of M) = false := by cases h : rd_is (M 3) tag (rd_of M) with
      | false => rfl
      | true => rw [h] at c10; simp at c10
    refine xv_retv hX hR dc_NL_readIfThere_13 ?_
    refine ⟨hI0, fun q a b c => xm_oth (by omega), by rw [xm_eq]; decide, ?_⟩
    rw [ho0]
    rcases nl_none hc with h | ⟨i, h⟩ | ⟨t, h1, h2⟩
    · exact Or.inl h
    · exact (rd_of_nil h).elim
    · exact Or.inr ⟨[], t, h2, h1, xm_eq, fun k hk => absurd hk (Nat.not_lt_zero _)⟩
end
section
/-! Extension; bits -/
set_option maxRecDepth 100000 in
set_option maxHeartbeats 4000000 in
theorem ct_EX_isKnown (l : Launch) (Y : xw_Y) (M : xm_M) (p : Nat) (hp : xk_ex p) (h1 : M p 0 < 256) : xc_i l qm_EX_isKnown 0 Y [.ref (Y.2.2.2 p)] M (fun r M1 => M1 = M ∧ ∃ t : Nat, r = nI t ∧ t < 2 ∧ (t = 1 ↔ (M p 0 = 1 ∨ M p 0 = 2 ∨ M p 0 = 3))) := by
  refine xc_i.mk .boolean rfl (by decide) (Nat.le_of_ble_eq_true rfl) ?_
  intro X hXl hX hR
  subst hXl
  have hX : xv_ok X Y prog_4_method_2_code "CertificatePath$Extension" 1 (xc_rm 0) := hX
  show xv_V X Y 1 0 0 xw_lk xw_N M 0 [(0, .ref (Y.2.2.2 p))] []
  refine xv_aload_n hX 0 dc_EX_isKnown_0 rfl (rfl : _ = 1) ?_
  refine xv_geti hX fl_EX_9 rfl hp.1 (xk_N (Nat.lt_of_succ_lt hp.2.2.2.2)) (v := M p 0) rfl dc_EX_isKnown_1 (rfl : _ = 4) ?_
  refine xv_iconst hX (v := nI 1) dc_EX_isKnown_4 (by decide) (rfl : _ = 5) ?_
  refine xv_icmp_eq hX (nI_toInt (by omega)) (show (nI 1).toInt = 1 by decide) (tgt := 24) (pq := 8) dc_EX_isKnown_5 (by decide) rfl (fun c5 => ?_) (fun c5 => ?_)
  · skip
    refine xv_iconst hX (v := nI 1) dc_EX_isKnown_24 (by decide) (rfl : _ = 25) ?_
    refine xv_goto hX (pq := 29) dc_EX_isKnown_25 (by decide) ?_
    refine xv_reti hX hR (by decide) dc_EX_isKnown_29 ?_
    exact ⟨rfl, 1, rfl, by decide, by omega, by omega⟩
  · skip
    refine xv_aload_n hX 0 dc_EX_isKnown_8 rfl (rfl : _ = 9) ?_
    refine xv_geti hX fl_EX_9 rfl hp.1 (xk_N (Nat.lt_of_succ_lt hp.2.2.2.2)) (v := M p 0) rfl dc_EX_isKnown_9 (rfl : _ = 12) ?_
    refine xv_iconst hX (v := nI 2) dc_EX_isKnown_12 (by decide) (rfl : _ = 13) ?_
    refine xv_icmp_eq hX (nI_toInt (by omega)) (show (nI 2).toInt = 2 by decide) (tgt := 24) (pq := 16) dc_EX_isKnown_13 (by decide) rfl (fun c13 => ?_) (fun c13 => ?_)
    · skip
      refine xv_iconst hX (v := nI 1) dc_EX_isKnown_24 (by decide) (rfl : _ = 25) ?_
      refine xv_goto hX (pq := 29) dc_EX_isKnown_25 (by decide) ?_
      refine xv_reti hX hR (by decide) dc_EX_isKnown_29 ?_
      exact ⟨rfl, 1, rfl, by decide, by omega, by omega⟩
    · skip
      refine xv_aload_n hX 0 dc_EX_isKnown_16 rfl (rfl : _ = 17) ?_
      refine xv_geti hX fl_EX_9 rfl hp.1 (xk_N (Nat.lt_of_succ_lt hp.2.2.2.2)) (v := M p 0) rfl dc_EX_isKnown_17 (rfl : _ = 20) ?_
      refine xv_iconst hX (v := nI 3) dc_EX_isKnown_20 (by decide) (rfl : _ = 21) ?_
      refine xv_icmp_ne hX (nI_toInt (by omega)) (show (nI 3).toInt = 3 by decide) (tgt := 28) (pq := 24) dc_EX_isKnown_21 (by decide) rfl (fun c21 => ?_) (fun c21 => ?_)
      · skip
        refine xv_iconst hX (v := nI 0) dc_EX_isKnown_28 (by decide) (rfl : _ = 29) ?_
        refine xv_reti hX hR (by decide) dc_EX_isKnown_29 ?_
        exact ⟨rfl, 0, rfl, by decide, by omega, by omega⟩
      · skip
        refine xv_iconst hX (v := nI 1) dc_EX_isKnown_24 (by decide) (rfl : _ = 25) ?_
        refine xv_goto hX (pq := 29) dc_EX_isKnown_25 (by decide) ?_
        refine xv_reti hX hR (by decide) dc_EX_isKnown_29 ?_
        exact ⟨rfl, 1, rfl, by decide, by omega, by omega⟩

set_option maxRecDepth 100000 in
set_option maxHeartbeats 4000000 in
theorem ct_EX_readOctets (l : Launch) (Y : xw_Y) (M : xm_M) (p : Nat) (hp : xk_ex p) (hI : rd_I M) : xc_v l qm_EX_readOctets 1 Y [.ref (Y.2.2.2 p), .ref (Y.2.2.2 1)] M (fun M1 => rd_I M1 ∧ ex_F p M M1 ∧ rd_of M1 = rd_oct (rd_of M) ∧ ∀ i l ls, rd_of M = some (i, l :: ls) → l - i ≤ 20 → M1 p 3 = l - i ∧ ∀ j, j < l - i → M1 (p + 1) j = M 3 (i + j)) := by
  refine xc_v.mk rfl (by decide) (Nat.le_of_ble_eq_true rfl) ?_
  intro X hXl hX hR
  subst hXl
  have hX : xv_ok X Y prog_4_method_3_code "CertificatePath$Extension" 3 (xc_rm 1) := hX
  show xv_V X Y 3 0 0 xw_lk xw_N M 0 [(0, .ref (Y.2.2.2 p)), (1, .ref (Y.2.2.2 1))] []
  have hp6 := hp.2.2.2.1
  have hn := rd_rem_le hI
  have hc0 : ∀ q, q < 6 → (xm_set M p 3 (rd_rem (rd_of M))) q = M q := fun q hq => xm_oth (by omega)
  have hI0 : rd_I (xm_set M p 3 (rd_rem (rd_of M))) := hI.cg hc0
  have ho0 : rd_of (xm_set M p 3 (rd_rem (rd_of M))) = rd_of M := rd_of_cg hc0
  refine xv_aload_n hX 0 dc_EX_readOctets_0 rfl (rfl : _ = 1) ?_
  refine xv_aload_n hX 1 dc_EX_readOctets_1 rfl (rfl : _ = 2) ?_
  refine xv_calli hX (As := []) (rest := [.ref (Y.2.2.2 p)]) (ct_RD_remaining _ Y M hI) ml_EX_26 li_RD_remaining rfl (by decide) rfl rfl rfl (by decide) ⟨by decide, by decide⟩ ⟨Nat.le_refl _, Nat.le_refl _⟩ (Nat.le_of_ble_eq_true rfl) dc_EX_readOctets_2 (rfl : _ = 5) (fun r2 M2 p2 => ?_)
  rw [p2.1, p2.2]
  refine xv_puti hX fl_EX_23 rfl hp.1 (xk_N (Nat.lt_of_succ_lt hp.2.2.2.2)) dc_EX_readOctets_5 (rfl : _ = 8) ?_
  refine xv_aload_n hX 0 dc_EX_readOctets_8 rfl (rfl : _ = 9) ?_
  refine xv_geti hX fl_EX_23 rfl hp.1 (xk_N (Nat.lt_of_succ_lt hp.2.2.2.2)) (v := rd_rem (rd_of M)) xm_eq dc_EX_readOctets_9 (rfl : _ = 12) ?_
  refine xv_aload_n hX 0 dc_EX_readOctets_12 rfl (rfl : _ = 13) ?_
  refine xv_getr hX fl_EX_19 rfl hp.1 (xk_N (Nat.lt_of_succ_lt hp.2.2.2.2)) hp.2.2.1 dc_EX_readOctets_13 (rfl : _ = 16) ?_
  refine xv_alen hX (n := 20) hp.2.1 ⟨_, rfl⟩ (xk_N hp.2.2.2.2) dc_EX_readOctets_16 (rfl : _ = 17) ?_
  refine xv_icmp_le hX (nI_toInt (by omega)) (show (nI 20).toInt = 20 by decide) (tgt := 29) (pq := 20) dc_EX_readOctets_17 (by decide) rfl (fun c17 => ?_) (fun c17 => ?_)
  · skip
    refine xv_iconst hX (v := nI 0) dc_EX_readOctets_29 (by decide) (rfl : _ = 30) ?_
    refine xv_istore_n hX [1, 2, 0] dc_EX_readOctets_30 (by decide) (L' := [(0, .ref (Y.2.2.2 p)), (1, .ref (Y.2.2.2 1)), (2, .int (nI 0))]) rfl (rfl : _ = 31) ?_
    have lp31 : ∀ (n : Nat) (Mk : xm_M) (N : Nat) (k : Nat) (hN : N ≤ 20) (hk : k ≤ N) (hz : Mk p 3 = N) (hIk : rd_I Mk) (hF : ex_F p M Mk) (hJ : ex_J (M 3) (rd_of M) (Mk (p + 1)) (rd_of Mk) N k), N - k < n → xv_V X Y 3 0 0 xw_lk xw_N Mk 31 [(0, .ref (Y.2.2.2 p)), (1, .ref (Y.2.2.2 1)), (2, .int (nI k))] [] := by
      intro n31
      induction n31 with
      | zero => intro Mk N k hN hk hz hIk hF hJ hm31; exact absurd hm31 (Nat.not_lt_zero _)
      | succ n31 ih31 =>
        intro Mk N k hN hk hz hIk hF hJ hm31
        refine xv_iload_n hX 2 dc_EX_readOctets_31 rfl (rfl : _ = 32) ?_
        refine xv_aload_n hX 0 dc_EX_readOctets_32 rfl (rfl : _ = 33) ?_
        refine xv_geti hX fl_EX_23 rfl hp.1 (xk_N (Nat.lt_of_succ_lt hp.2.2.2.2)) (v := Mk p 3) rfl dc_EX_readOctets_33 (rfl : _ = 36) ?_
        refine xv_icmp_ge hX (nI_toInt (by omega)) (nI_toInt (by omega)) (tgt := 55) (pq := 39) dc_EX_readOctets_36 (by decide) rfl (fun c36 => ?_) (fun c36 => ?_)
        · skip
          refine xv_retv hX hR dc_EX_readOctets_55 ?_
          refine ⟨hIk, hF, ?_, ?_⟩
          · rcases hJ with ⟨h1, -, h2⟩ | ⟨i, l, ls, h1, h2, h3, h4, h5, h6⟩
            · rw [h1, h2]
            · rw [h5, h1]
              show _ = if l - i ≤ 20 then some (l, l :: ls) else none
              rw [if_pos h3, show i + k = l by omega]
          · intro i l ls hs hle
            rcases hJ with ⟨-, -, h2⟩ | ⟨i', l', ls', h1, h2, h3, h4, h5, h6⟩
            · rw [hs] at h2
              exact absurd (h2.symm.trans (if_pos hle)) (by simp)
            · rw [hs] at h1
              simp only [Option.some.injEq, Prod.mk.injEq, List.cons.injEq] at h1
              obtain ⟨rfl, rfl, rfl⟩ := h1
              exact ⟨by omega, fun j hj => h6 j (by omega)⟩
        · skip
          refine xv_aload_n hX 0 dc_EX_readOctets_39 rfl (rfl : _ = 40) ?_
          refine xv_getr hX fl_EX_19 rfl hp.1 (xk_N (Nat.lt_of_succ_lt hp.2.2.2.2)) hp.2.2.1 dc_EX_readOctets_40 (rfl : _ = 43) ?_
          refine xv_iload_n hX 2 dc_EX_readOctets_43 rfl (rfl : _ = 44) ?_
          refine xv_aload_n hX 1 dc_EX_readOctets_44 rfl (rfl : _ = 45) ?_
          refine xv_calli hX (As := []) (rest := [.int (nI k), .ref (Y.2.2.2 (p + 1))]) (ct_RD_readByte _ Y Mk hIk) ml_EX_35 li_RD_readByte rfl (by decide) rfl rfl rfl (by decide) ⟨by decide, by decide⟩ ⟨Nat.le_refl _, Nat.le_refl _⟩ (Nat.le_of_ble_eq_true rfl) dc_EX_readOctets_45 (rfl : _ = 48) (fun r45 M45 p45 => ?_)
          obtain ⟨⟨i45, f45, e45⟩, z45⟩ := p45
          have bk : Mk 3 = M 3 := hF.1 3 (by decide) (by decide) (by omega) (by omega)
          rw [bk] at z45
          have hw1 : rd_byte (M 3) (rd_of Mk) < 256 := by have h := rd_byte_lt hIk; rw [bk] at h; exact h
          obtain ⟨w, hw⟩ : ∃ w, rd_byte (M 3) (rd_of Mk) = w := ⟨_, rfl⟩
          rw [z45, hw]
          have hc9 : ∀ q, q < 6 → (xm_set M45 (p + 1) k w) q = M45 q := fun q hq => xm_oth (by omega)
          refine xv_iast hX hp.2.1 (xk_N hp.2.2.2.2) (by omega) (by decide) dc_EX_readOctets_48 (rfl : _ = 49) ?_
          refine xv_iinc hX 2 [1, 2, 0] dc_EX_readOctets_49 rfl (xi_inc k 1) (by decide) (L' := [(0, .ref (Y.2.2.2 p)), (1, .ref (Y.2.2.2 1)), (2, .int (nI (k + 1)))]) rfl (rfl : _ = 52) ?_
          refine xv_goto hX (pq := 31) dc_EX_readOctets_52 (by decide) ?_
          refine xv_sub (L' := [(0, .ref (Y.2.2.2 p)), (1, .ref (Y.2.2.2 1)), (2, .int (nI (k + 1)))]) [0, 1, 2] rfl ?_
          exact ih31 (xm_set M45 (p + 1) k w) N (k + 1) hN (by omega) (by rw [xm_oth (by omega), f45 p (by omega) (by omega)]; exact hz) (i45.cg hc9) (by refine ⟨fun q a1 a2 a3 a4 => ?_, ?_, ?_⟩; rw [xm_oth a4, f45 q a1 a2]; exact hF.1 q a1 a2 a3 a4; rw [xm_oth (by omega), f45 p (by omega) (by omega)]; exact hF.2.1; rw [xm_oth (by omega), f45 p (by omega) (by omega)]; exact hF.2.2) (by rw [rd_of_cg hc9, e45]; exact ex_J1 hJ (by omega) (fun j hj => by rw [xm_row, f45 (p + 1) (by omega) (by omega), hw])) (by omega)
    refine xv_sub (L' := [(0, .ref (Y.2.2.2 p)), (1, .ref (Y.2.2.2 1)), (2, .int (nI 0))]) [0, 1, 2] rfl ?_
    exact lp31 _ (xm_set M p 3 (rd_rem (rd_of M))) (rd_rem (rd_of M)) 0 (by omega) (Nat.zero_le _) xm_eq hI0 (by refine ⟨fun q a1 a2 a3 a4 => xm_oth a3, xm_nk (by decide), xm_nk (by decide)⟩) (by rw [ho0]; exact ex_J0 hI (by omega)) (Nat.lt_succ_self _)
  · skip
    refine xv_aload_n hX 1 dc_EX_readOctets_20 rfl (rfl : _ = 21) ?_
    refine xv_callv hX (As := []) (rest := []) (ct_RD_refuse _ Y (xm_set M p 3 (rd_rem (rd_of M))) hI0) ml_EX_32 li_RD_refuse rfl (by decide) rfl rfl rfl (by decide) ⟨by decide, by decide⟩ ⟨Nat.le_refl _, Nat.le_refl _⟩ (Nat.le_of_ble_eq_true rfl) dc_EX_readOctets_21 (rfl : _ = 24) (fun M21 p21 => ?_)
    obtain ⟨i21, f21, e21⟩ := p21
    have hc21 : ∀ q, q < 6 → (xm_set M21 p 3 0) q = M21 q := fun q hq => xm_oth (by omega)
    have hbig : rd_oct (rd_of M) = none := by
      rcases hs : rd_of M with _ | ⟨i, _ | ⟨l, ls⟩⟩
      · rfl
      · rfl
      · rw [hs] at c17
        simp only [rd_rem] at c17
        exact if_neg (by omega)
    refine xv_aload_n hX 0 dc_EX_readOctets_24 rfl (rfl : _ = 25) ?_
    refine xv_iconst hX (v := nI 0) dc_EX_readOctets_25 (by decide) (rfl : _ = 26) ?_
    refine xv_puti hX fl_EX_23 rfl hp.1 (xk_N (Nat.lt_of_succ_lt hp.2.2.2.2)) dc_EX_readOctets_26 (rfl : _ = 29) ?_
    refine xv_iconst hX (v := nI 0) dc_EX_readOctets_29 (by decide) (rfl : _ = 30) ?_
    refine xv_istore_n hX [1, 2, 0] dc_EX_readOctets_30 (by decide) (L' := [(0, .ref (Y.2.2.2 p)), (1, .ref (Y.2.2.2 1)), (2, .int (nI 0))]) rfl (rfl : _ = 31) ?_
    have lp31 : ∀ (n : Nat) (Mk : xm_M) (N : Nat) (k : Nat) (hN : N ≤ 20) (hk : k ≤ N) (hz : Mk p 3 = N) (hIk : rd_I Mk) (hF : ex_F p M Mk) (hJ : ex_J (M 3) (rd_of M) (Mk (p + 1)) (rd_of Mk) N k), N - k < n → xv_V X Y 3 0 0 xw_lk xw_N Mk 31 [(0, .ref (Y.2.2.2 p)), (1, .ref (Y.2.2.2 1)), (2, .int (nI k))] [] := by
      intro n31
      induction n31 with
      | zero => intro Mk N k hN hk hz hIk hF hJ hm31; exact absurd hm31 (Nat.not_lt_zero _)
      | succ n31 ih31 =>
        intro Mk N k hN hk hz hIk hF hJ hm31
        refine xv_iload_n hX 2 dc_EX_readOctets_31 rfl (rfl : _ = 32) ?_
        refine xv_aload_n hX 0 dc_EX_readOctets_32 rfl (rfl : _ = 33) ?_
        refine xv_geti hX fl_EX_23 rfl hp.1 (xk_N (Nat.lt_of_succ_lt hp.2.2.2.2)) (v := Mk p 3) rfl dc_EX_readOctets_33 (rfl : _ = 36) ?_
        refine xv_icmp_ge hX (nI_toInt (by omega)) (nI_toInt (by omega)) (tgt := 55) (pq := 39) dc_EX_readOctets_36 (by decide) rfl (fun c36 => ?_) (fun c36 => ?_)
        · skip
          refine xv_retv hX hR dc_EX_readOctets_55 ?_
          refine ⟨hIk, hF, ?_, ?_⟩
          · rcases hJ with ⟨h1, -, h2⟩ | ⟨i, l, ls, h1, h2, h3, h4, h5, h6⟩
            · rw [h1, h2]
            · rw [h5, h1]
              show _ = if l - i ≤ 20 then some (l, l :: ls) else none
              rw [if_pos h3, show i + k = l by omega]
          · intro i l ls hs hle
            rcases hJ with ⟨-, -, h2⟩ | ⟨i', l', ls', h1, h2, h3, h4, h5, h6⟩
            · rw [hs] at h2
              exact absurd (h2.symm.trans (if_pos hle)) (by simp)
            · rw [hs] at h1
              simp only [Option.some.injEq, Prod.mk.injEq, List.cons.injEq] at h1
              obtain ⟨rfl, rfl, rfl⟩ := h1
              exact ⟨by omega, fun j hj => h6 j (by omega)⟩
        · skip
          refine xv_aload_n hX 0 dc_EX_readOctets_39 rfl (rfl : _ = 40) ?_
          refine xv_getr hX fl_EX_19 rfl hp.1 (xk_N (Nat.lt_of_succ_lt hp.2.2.2.2)) hp.2.2.1 dc_EX_readOctets_40 (rfl : _ = 43) ?_
          refine xv_iload_n hX 2 dc_EX_readOctets_43 rfl (rfl : _ = 44) ?_
          refine xv_aload_n hX 1 dc_EX_readOctets_44 rfl (rfl : _ = 45) ?_
          refine xv_calli hX (As := []) (rest := [.int (nI k), .ref (Y.2.2.2 (p + 1))]) (ct_RD_readByte _ Y Mk hIk) ml_EX_35 li_RD_readByte rfl (by decide) rfl rfl rfl (by decide) ⟨by decide, by decide⟩ ⟨Nat.le_refl _, Nat.le_refl _⟩ (Nat.le_of_ble_eq_true rfl) dc_EX_readOctets_45 (rfl : _ = 48) (fun r45 M45 p45 => ?_)
          obtain ⟨⟨i45, f45, e45⟩, z45⟩ := p45
          have bk : Mk 3 = M 3 := hF.1 3 (by decide) (by decide) (by omega) (by omega)
          rw [bk] at z45
          have hw1 : rd_byte (M 3) (rd_of Mk) < 256 := by have h := rd_byte_lt hIk; rw [bk] at h; exact h
          obtain ⟨w, hw⟩ : ∃ w, rd_byte (M 3) (rd_of Mk) = w := ⟨_, rfl⟩
          rw [z45, hw]
          have hc9 : ∀ q, q < 6 → (xm_set M45 (p + 1) k w) q = M45 q := fun q hq => xm_oth (by omega)
          refine xv_iast hX hp.2.1 (xk_N hp.2.2.2.2) (by omega) (by decide) dc_EX_readOctets_48 (rfl : _ = 49) ?_
          refine xv_iinc hX 2 [1, 2, 0] dc_EX_readOctets_49 rfl (xi_inc k 1) (by decide) (L' := [(0, .ref (Y.2.2.2 p)), (1, .ref (Y.2.2.2 1)), (2, .int (nI (k + 1)))]) rfl (rfl : _ = 52) ?_
          refine xv_goto hX (pq := 31) dc_EX_readOctets_52 (by decide) ?_
          refine xv_sub (L' := [(0, .ref (Y.2.2.2 p)), (1, .ref (Y.2.2.2 1)), (2, .int (nI (k + 1)))]) [0, 1, 2] rfl ?_
          exact ih31 (xm_set M45 (p + 1) k w) N (k + 1) hN (by omega) (by rw [xm_oth (by omega), f45 p (by omega) (by omega)]; exact hz) (i45.cg hc9) (by refine ⟨fun q a1 a2 a3 a4 => ?_, ?_, ?_⟩; rw [xm_oth a4, f45 q a1 a2]; exact hF.1 q a1 a2 a3 a4; rw [xm_oth (by omega), f45 p (by omega) (by omega)]; exact hF.2.1; rw [xm_oth (by omega), f45 p (by omega) (by omega)]; exact hF.2.2) (by rw [rd_of_cg hc9, e45]; exact ex_J1 hJ (by omega) (fun j hj => by rw [xm_row, f45 (p + 1) (by omega) (by omega), hw])) (by omega)
    refine xv_sub (L' := [(0, .ref (Y.2.2.2 p)), (1, .ref (Y.2.2.2 1)), (2, .int (nI 0))]) [0, 1, 2] rfl ?_
    exact lp31 _ (xm_set M21 p 3 0) 0 0 (by decide) (by decide) xm_eq (i21.cg hc21) (by refine ⟨fun q a1 a2 a3 a4 => ?_, ?_, ?_⟩; rw [xm_oth a3, f21 q a1 a2, xm_oth a3]; rw [xm_nk (by decide), f21 p (by omega) (by omega), xm_nk (by decide)]; rw [xm_nk (by decide), f21 p (by omega) (by omega), xm_nk (by decide)]) (by rw [rd_of_cg hc21, e21]; exact Or.inl ⟨rfl, rfl, hbig⟩) (Nat.lt_succ_self _)

set_option maxRecDepth 100000 in
set_option maxHeartbeats 4000000 in
theorem ct_CT_mirrored (l : Launch) (Y : xw_Y) (M : xm_M) (x : Nat) (hx : x < 256) : xc_i l qm_CT_mirrored 0 Y [.int (nI x)] M (fun r M1 => M1 = M ∧ r = nI (ps_mir x 8)) := by
  refine xc_i.mk .int rfl (by decide) (Nat.le_of_ble_eq_true rfl) ?_
  intro X hXl hX hR
  subst hXl
  have hX : xv_ok X Y prog_3_method_24_code "CertificatePath$Certificate" 3 (xc_rm 0) := hX
  show xv_V X Y 3 0 0 xw_lk xw_N M 0 [(0, .int (nI x))] []
  refine xv_iconst hX (v := nI 0) dc_CT_mirrored_0 (by decide) (rfl : _ = 1) ?_
  refine xv_istore_n hX [1, 0] dc_CT_mirrored_1 (by decide) (L' := [(0, .int (nI x)), (1, .int (nI 0))]) rfl (rfl : _ = 2) ?_
  refine xv_iconst hX (v := nI 0) dc_CT_mirrored_2 (by decide) (rfl : _ = 3) ?_
  refine xv_istore_n hX [1, 2, 0] dc_CT_mirrored_3 (by decide) (L' := [(0, .int (nI x)), (1, .int (nI 0)), (2, .int (nI 0))]) rfl (rfl : _ = 4) ?_
  have lp4 : ∀ (n : Nat) (k : Nat) (v : Nat) (hk : k ≤ 8) (hv : v = ps_mir x k), 8 - k < n → xv_V X Y 3 0 0 xw_lk xw_N M 4 [(0, .int (nI x)), (1, .int (nI v)), (2, .int (nI k))] [] := by
    intro n4
    induction n4 with
    | zero => intro k v hk hv hm4; exact absurd hm4 (Nat.not_lt_zero _)
    | succ n4 ih4 =>
      intro k v hk hv hm4
      refine xv_iload_n hX 2 dc_CT_mirrored_4 rfl (rfl : _ = 5) ?_
      refine xv_bipush hX (v := nI 8) dc_CT_mirrored_5 (by decide) (rfl : _ = 7) ?_
      refine xv_icmp_ge hX (nI_toInt (by omega)) (show (nI 8).toInt = 8 by decide) (tgt := 26) (pq := 10) dc_CT_mirrored_7 (by decide) rfl (fun c7 => ?_) (fun c7 => ?_)
      · skip
        refine xv_iload_n hX 1 dc_CT_mirrored_26 rfl (rfl : _ = 27) ?_
        refine xv_reti hX hR rfl dc_CT_mirrored_27 ?_
        exact ⟨rfl, by rw [hv, show k = 8 by omega]⟩
      · skip
        subst hv
        refine xv_iload_n hX 1 dc_CT_mirrored_10 rfl (rfl : _ = 11) ?_
        refine xv_iconst hX (v := nI 1) dc_CT_mirrored_11 (by decide) (rfl : _ = 12) ?_
        refine xv_ishl hX dc_CT_mirrored_12 (xi_shl1 _) (rfl : _ = 13) ?_
        refine xv_iload_n hX 0 dc_CT_mirrored_13 rfl (rfl : _ = 14) ?_
        refine xv_iload_n hX 2 dc_CT_mirrored_14 rfl (rfl : _ = 15) ?_
        refine xv_iushr hX dc_CT_mirrored_15 (xi_ushr (by omega) (by omega)) (rfl : _ = 16) ?_
        refine xv_iconst hX (v := nI 1) dc_CT_mirrored_16 (by decide) (rfl : _ = 17) ?_
        refine xv_iand hX dc_CT_mirrored_17 (xi_and1 (by have := Nat.div_le_self x (2 ^ k); omega)) (rfl : _ = 18) ?_
        refine xv_ior hX dc_CT_mirrored_18 (xi_or1 (Nat.mod_lt _ (by decide))) (rfl : _ = 19) ?_
        refine xv_istore_n hX [1, 0, 2] dc_CT_mirrored_19 (by decide) (L' := [(0, .int (nI x)), (1, .int (nI (ps_mir x k * 2 + x / 2 ^ k % 2))), (2, .int (nI k))]) rfl (rfl : _ = 20) ?_
        refine xv_iinc hX 2 [1, 2, 0] dc_CT_mirrored_20 rfl (xi_inc k 1) (by decide) (L' := [(0, .int (nI x)), (1, .int (nI (ps_mir x k * 2 + x / 2 ^ k % 2))), (2, .int (nI (k + 1)))]) rfl (rfl : _ = 23) ?_
        refine xv_goto hX (pq := 4) dc_CT_mirrored_23 (by decide) ?_
        refine xv_sub (L' := [(0, .int (nI x)), (1, .int (nI (ps_mir x k * 2 + x / 2 ^ k % 2))), (2, .int (nI (k + 1)))]) [0, 1, 2] rfl ?_
        exact ih4 (k + 1) _ (by omega) (by show _ = 2 * ps_mir x k + _; omega) (by omega)
  refine xv_sub (L' := [(0, .int (nI x)), (1, .int (nI 0)), (2, .int (nI 0))]) [0, 1, 2] rfl ?_
  exact lp4 _ 0 0 (by decide) rfl (Nat.lt_succ_self _)

set_option maxRecDepth 100000 in
set_option maxHeartbeats 4000000 in
theorem ct_CT_zerosBehind (l : Launch) (Y : xw_Y) (M : xm_M) (x : Nat) (hx : x < 256) : xc_i l qm_CT_zerosBehind 0 Y [.int (nI x)] M (fun r M1 => M1 = M ∧ r = nI (ps_tz x 8 0)) := by
  refine xc_i.mk .int rfl (by decide) (Nat.le_of_ble_eq_true rfl) ?_
  intro X hXl hX hR
  subst hXl
  have hX : xv_ok X Y prog_3_method_25_code "CertificatePath$Certificate" 2 (xc_rm 0) := hX
  show xv_V X Y 2 0 0 xw_lk xw_N M 0 [(0, .int (nI x))] []
  refine xv_iconst hX (v := nI 0) dc_CT_zerosBehind_0 (by decide) (rfl : _ = 1) ?_
  refine xv_istore_n hX [1, 0] dc_CT_zerosBehind_1 (by decide) (L' := [(0, .int (nI x)), (1, .int (nI 0))]) rfl (rfl : _ = 2) ?_
  have lp2 : ∀ (n : Nat) (k : Nat) (hk : k ≤ 8) (hv : ps_tz x 8 0 = ps_tz x (8 - k) k), 8 - k < n → xv_V X Y 2 0 0 xw_lk xw_N M 2 [(0, .int (nI x)), (1, .int (nI k))] [] := by
    intro n2
    induction n2 with
    | zero => intro k hk hv hm2; exact absurd hm2 (Nat.not_lt_zero _)
    | succ n2 ih2 =>
      intro k hk hv hm2
      refine xv_iload_n hX 1 dc_CT_zerosBehind_2 rfl (rfl : _ = 3) ?_
      refine xv_bipush hX (v := nI 8) dc_CT_zerosBehind_3 (by decide) (rfl : _ = 5) ?_
      refine xv_icmp_ge hX (nI_toInt (by omega)) (show (nI 8).toInt = 8 by decide) (tgt := 22) (pq := 8) dc_CT_zerosBehind_5 (by decide) rfl (fun c5 => ?_) (fun c5 => ?_)
      · skip
        refine xv_iload_n hX 1 dc_CT_zerosBehind_22 rfl (rfl : _ = 23) ?_
        refine xv_reti hX hR rfl dc_CT_zerosBehind_23 ?_
        refine ⟨rfl, congrArg nI ?_⟩
        rw [hv]
        first
        | (rw [show k = 8 by omega]; rfl)
        | (rw [show 8 - k = (8 - (k + 1)) + 1 by omega]; exact (if_neg (by omega)).symm)
      · skip
        refine xv_iload_n hX 0 dc_CT_zerosBehind_8 rfl (rfl : _ = 9) ?_
        refine xv_iload_n hX 1 dc_CT_zerosBehind_9 rfl (rfl : _ = 10) ?_
        refine xv_iushr hX dc_CT_zerosBehind_10 (xi_ushr (by omega) (by omega)) (rfl : _ = 11) ?_
        refine xv_iconst hX (v := nI 1) dc_CT_zerosBehind_11 (by decide) (rfl : _ = 12) ?_
        refine xv_iand hX dc_CT_zerosBehind_12 (xi_and1 (by have := Nat.div_le_self x (2 ^ k); omega)) (rfl : _ = 13) ?_
        refine xv_if_ne hX (nI_toInt (by omega)) (tgt := 22) (pq := 16) dc_CT_zerosBehind_13 (by decide) rfl (fun c13 => ?_) (fun c13 => ?_)
        · skip
          refine xv_iload_n hX 1 dc_CT_zerosBehind_22 rfl (rfl : _ = 23) ?_
          refine xv_reti hX hR rfl dc_CT_zerosBehind_23 ?_
          refine ⟨rfl, congrArg nI ?_⟩
          rw [hv]
          first
          | (rw [show k = 8 by omega]; rfl)
          | (rw [show 8 - k = (8 - (k + 1)) + 1 by omega]; exact (if_neg (by omega)).symm)
        · skip
          refine xv_iinc hX 1 [1, 0] dc_CT_zerosBehind_16 rfl (xi_inc k 1) (by decide) (L' := [(0, .int (nI x)), (1, .int (nI (k + 1)))]) rfl (rfl : _ = 19) ?_
          refine xv_goto hX (pq := 2) dc_CT_zerosBehind_19 (by decide) ?_
          refine xv_sub (L' := [(0, .int (nI x)), (1, .int (nI (k + 1)))]) [0, 1] rfl ?_
          exact ih2 (k + 1) (by omega) (by rw [hv, show 8 - k = (8 - (k + 1)) + 1 by omega]; exact if_pos (by omega)) (by omega)
  refine xv_sub (L' := [(0, .int (nI x)), (1, .int (nI 0))]) [0, 1] rfl ?_
  exact lp2 _ 0 (by decide) rfl (Nat.lt_succ_self _)
end
section
/-! Certificate: its extensions -/
set_option maxRecDepth 100000 in
set_option maxHeartbeats 4000000 in
theorem ct_CT_forgetExtensions (l : Launch) (Y : xw_Y) (M : xm_M) (c : Nat) (hc : xk_ct c) : xc_v l qm_CT_forgetExtensions 0 Y [.ref (Y.2.2.2 c)] M (fun M1 => M1 = xm_set (xm_set (xm_set (xm_set (xm_set (xm_set M c 10 0) c 11 0) c 12 4294967295) c 13 4294967295) (c + 14) 1 0) (c + 22) 1 0) := by
  refine xc_v.mk rfl (by decide) (Nat.le_of_ble_eq_true rfl) ?_
  intro X hXl hX hR
  subst hXl
  have hX : xv_ok X Y prog_3_method_2_code "CertificatePath$Certificate" 1 (xc_rm 0) := hX
  show xv_V X Y 1 0 0 xw_lk xw_N M 0 [(0, .ref (Y.2.2.2 c))] []
  have hc6 : 6 ≤ c := hc.2.2.2.2.2.2.1
  have hc29 : c + 29 < 276 := hc.2.2.2.2.2.2.2
  refine xv_aload_n hX 0 dc_CT_forgetExtensions_0 rfl (rfl : _ = 1) ?_
  refine xv_iconst hX (v := nI 0) dc_CT_forgetExtensions_1 (by decide) (rfl : _ = 2) ?_
  refine xv_puti hX fl_CT_41 rfl hc.1 (xk_N (by omega)) dc_CT_forgetExtensions_2 (rfl : _ = 5) ?_
  refine xv_aload_n hX 0 dc_CT_forgetExtensions_5 rfl (rfl : _ = 6) ?_
  refine xv_iconst hX (v := nI 0) dc_CT_forgetExtensions_6 (by decide) (rfl : _ = 7) ?_
  refine xv_putz hX fl_CT_45 rfl hc.1 (xk_N (by omega)) (by decide) dc_CT_forgetExtensions_7 (rfl : _ = 10) ?_
  refine xv_aload_n hX 0 dc_CT_forgetExtensions_10 rfl (rfl : _ = 11) ?_
  refine xv_iconst hX (v := nI 4294967295) dc_CT_forgetExtensions_11 (by decide) (rfl : _ = 12) ?_
  refine xv_puti hX fl_CT_49 rfl hc.1 (xk_N (by omega)) dc_CT_forgetExtensions_12 (rfl : _ = 15) ?_
  refine xv_aload_n hX 0 dc_CT_forgetExtensions_15 rfl (rfl : _ = 16) ?_
  refine xv_iconst hX (v := nI 4294967295) dc_CT_forgetExtensions_16 (by decide) (rfl : _ = 17) ?_
  refine xv_puti hX fl_CT_52 rfl hc.1 (xk_N (by omega)) dc_CT_forgetExtensions_17 (rfl : _ = 20) ?_
  refine xv_aload_n hX 0 dc_CT_forgetExtensions_20 rfl (rfl : _ = 21) ?_
  refine xv_getr hX fl_CT_31 rfl hc.1 (xk_N (by omega)) hc.2.2.2.2.1.1 dc_CT_forgetExtensions_21 (rfl : _ = 24) ?_
  refine xv_iconst hX (v := nI 0) dc_CT_forgetExtensions_24 (by decide) (rfl : _ = 25) ?_
  refine xv_puti hX fl_CT_55 rfl hc.2.2.2.2.1.2.1 (xk_N (by have := hc.2.2.2.2.1.2.2.2.2.2.2; omega)) dc_CT_forgetExtensions_25 (rfl : _ = 28) ?_
  refine xv_aload_n hX 0 dc_CT_forgetExtensions_28 rfl (rfl : _ = 29) ?_
  refine xv_getr hX fl_CT_35 rfl hc.1 (xk_N (by omega)) hc.2.2.2.2.2.1.1 dc_CT_forgetExtensions_29 (rfl : _ = 32) ?_
  refine xv_iconst hX (v := nI 0) dc_CT_forgetExtensions_32 (by decide) (rfl : _ = 33) ?_
  refine xv_puti hX fl_CT_55 rfl hc.2.2.2.2.2.1.2.1 (xk_N (by have := hc.2.2.2.2.2.1.2.2.2.2.2.2; omega)) dc_CT_forgetExtensions_33 (rfl : _ = 36) ?_
  refine xv_retv hX hR dc_CT_forgetExtensions_36 ?_
  exact rfl

set_option maxRecDepth 100000 in
set_option maxHeartbeats 4000000 in
theorem ct_CT_hasExtension (l : Launch) (Y : xw_Y) (M : xm_M) (c x : Nat) (hc : xk_ct c) (hx : x < 256) (h1 : M c 10 ≤ 4) (h2 : ∀ j, j < M c 10 → M (c + 6 + 2 * j) 0 < 256) : xc_i l qm_CT_hasExtension 0 Y [.ref (Y.2.2.2 c), .int (nI x)] M (fun r M1 => M1 = M ∧ ∃ t : Nat, r = nI t ∧ t < 2 ∧ (t = 1 ↔ ∃ j, j < M c 10 ∧ M (c + 6 + 2 * j) 0 = x)) := by
  refine xc_i.mk .boolean rfl (by decide) (Nat.le_of_ble_eq_true rfl) ?_
  intro X hXl hX hR
  subst hXl
  have hX : xv_ok X Y prog_3_method_14_code "CertificatePath$Certificate" 3 (xc_rm 0) := hX
  show xv_V X Y 3 0 0 xw_lk xw_N M 0 [(0, .ref (Y.2.2.2 c)), (1, .int (nI x))] []
  have hc6 : 6 ≤ c := hc.2.2.2.2.2.2.1
  have hc29 : c + 29 < 276 := hc.2.2.2.2.2.2.2
  refine xv_iconst hX (v := nI 0) dc_CT_hasExtension_0 (by decide) (rfl : _ = 1) ?_
  refine xv_istore_n hX [1, 2, 0] dc_CT_hasExtension_1 (by decide) (L' := [(0, .ref (Y.2.2.2 c)), (1, .int (nI x)), (2, .int (nI 0))]) rfl (rfl : _ = 2) ?_
  have lp2 : ∀ (n : Nat) (k : Nat) (hk : k ≤ M c 10) (he : ∀ j, j < k → M (c + 6 + 2 * j) 0 ≠ x), M c 10 - k < n → xv_V X Y 3 0 0 xw_lk xw_N M 2 [(0, .ref (Y.2.2.2 c)), (1, .int (nI x)), (2, .int (nI k))] [] := by
    intro n2
    induction n2 with
    | zero => intro k hk he hm2; exact absurd hm2 (Nat.not_lt_zero _)
    | succ n2 ih2 =>
      intro k hk he hm2
      refine xv_iload_n hX 2 dc_CT_hasExtension_2 rfl (rfl : _ = 3) ?_
      refine xv_aload_n hX 0 dc_CT_hasExtension_3 rfl (rfl : _ = 4) ?_
      refine xv_geti hX fl_CT_41 rfl hc.1 (xk_N (by omega)) (v := M c 10) rfl dc_CT_hasExtension_4 (rfl : _ = 7) ?_
      refine xv_icmp_ge hX (nI_toInt (by omega)) (nI_toInt (by omega)) (tgt := 31) (pq := 10) dc_CT_hasExtension_7 (by decide) rfl (fun c7 => ?_) (fun c7 => ?_)
      · skip
        refine xv_iconst hX (v := nI 0) dc_CT_hasExtension_31 (by decide) (rfl : _ = 32) ?_
        refine xv_reti hX hR (by decide) dc_CT_hasExtension_32 ?_
        exact ⟨rfl, 0, rfl, by decide, by simp, fun ⟨j, hj, hw⟩ => absurd hw (he j (by omega))⟩
      · skip
        have hx2 := h2 k (by omega)
        refine xv_aload_n hX 0 dc_CT_hasExtension_10 rfl (rfl : _ = 11) ?_
        refine xv_getr hX fl_CT_23 rfl hc.1 (xk_N (by omega)) hc.2.2.2.1.1 dc_CT_hasExtension_11 (rfl : _ = 14) ?_
        refine xv_iload_n hX 2 dc_CT_hasExtension_14 rfl (rfl : _ = 15) ?_
        refine xv_aald hX hc.2.2.2.1.2.1 (C := xw_A4) rfl (xk_N (by omega)) (by omega) (by decide) (v := c + 6 + 2 * k) ((hc.2.2.2.1.2.2 _ (by omega)).1) dc_CT_hasExtension_15 (rfl : _ = 16) ?_
        refine xv_geti hX fl_CT_149 rfl (hc.2.2.2.1.2.2 _ (by omega)).2.1 (xk_N (by omega)) (v := M (c + 6 + 2 * k) 0) rfl dc_CT_hasExtension_16 (rfl : _ = 19) ?_
        refine xv_iload_n hX 1 dc_CT_hasExtension_19 rfl (rfl : _ = 20) ?_
        refine xv_icmp_ne hX (nI_toInt (by omega)) (nI_toInt (by omega)) (tgt := 25) (pq := 23) dc_CT_hasExtension_20 (by decide) rfl (fun c20 => ?_) (fun c20 => ?_)
        · skip
          refine xv_iinc hX 2 [1, 2, 0] dc_CT_hasExtension_25 rfl (xi_inc k 1) (by decide) (L' := [(0, .ref (Y.2.2.2 c)), (1, .int (nI x)), (2, .int (nI (k + 1)))]) rfl (rfl : _ = 28) ?_
          refine xv_goto hX (pq := 2) dc_CT_hasExtension_28 (by decide) ?_
          refine xv_sub (L' := [(0, .ref (Y.2.2.2 c)), (1, .int (nI x)), (2, .int (nI (k + 1)))]) [0, 1, 2] rfl ?_
          exact ih2 (k + 1) (by omega) (fun j hj => by rcases Nat.lt_or_eq_of_le (Nat.le_of_lt_succ hj) with h | h; exact he j h; rw [h]; omega) (by omega)
        · skip
          refine xv_iconst hX (v := nI 1) dc_CT_hasExtension_23 (by decide) (rfl : _ = 24) ?_
          refine xv_reti hX hR (by decide) dc_CT_hasExtension_24 ?_
          exact ⟨rfl, 1, rfl, by decide, fun _ => ⟨k, by omega, by omega⟩, fun _ => rfl⟩
  refine xv_sub (L' := [(0, .ref (Y.2.2.2 c)), (1, .int (nI x)), (2, .int (nI 0))]) [0, 1, 2] rfl ?_
  exact lp2 _ 0 (Nat.zero_le _) (fun j hj => absurd hj (Nat.not_lt_zero _)) (Nat.lt_succ_self _)

set_option maxRecDepth 100000 in
set_option maxHeartbeats 4000000 in
theorem ct_CT_readBasic (l : Launch) (Y : xw_Y) (M : xm_M) (c : Nat) (hc : xk_ct c) (hI : rd_I M) (hd : rd_D 2 (rd_of M)) : xc_v l qm_CT_readBasic 2 Y [.ref (Y.2.2.2 c), .ref (Y.2.2.2 1)] M (fun M1 => rd_I M1 ∧ (∀ q, q ≠ 1 → q ≠ 4 → q ≠ c → M1 q = M q) ∧ (∀ k, k ≠ 11 → k ≠ 12 → M1 c k = M c k) ∧ rs_ok (rd_run (ps_basic (M 3)) (rd_of M)) (rd_of M1) (fun z => M1 c 11 = (if z.1 = true then 1 else 0) ∧ M1 c 12 = (match z.2 with | some v => v | none => M c 12))) := by
  refine xc_v.mk rfl (by decide) (Nat.le_of_ble_eq_true rfl) ?_
  intro X hXl hX hR
  subst hXl
  have hX : xv_ok X Y prog_3_method_15_code "CertificatePath$Certificate" 2 (xc_rm 2) := hX
  show xv_V X Y 2 0 0 xw_lk xw_N M 0 [(0, .ref (Y.2.2.2 c)), (1, .ref (Y.2.2.2 1))] []
  have hc6 : 6 ≤ c := hc.2.2.2.2.2.2.1
  have hc29 : c + 29 < 276 := hc.2.2.2.2.2.2.2
  refine xv_aload_n hX 1 dc_CT_readBasic_0 rfl (rfl : _ = 1) ?_
  refine xv_bipush hX (v := nI 48) dc_CT_readBasic_1 (by decide) (rfl : _ = 3) ?_
  refine xv_callv hX (As := [.int (nI 48)]) (rest := []) (ct_RD_open _ Y M 48 hI (by decide)) ml_CT_102 li_RD_open rfl (by decide) rfl rfl rfl (by decide) ⟨by decide, by decide⟩ ⟨Nat.le_refl _, Nat.le_refl _⟩ (Nat.le_of_ble_eq_true rfl) dc_CT_readBasic_3 (rfl : _ = 6) (fun M3 p3 => ?_)
  obtain ⟨i3, f3, e3⟩ := p3
  have b3 : M3 3 = M 3 := f3 3 (by decide) (by decide)
  have hd3 : rd_D 1 (rd_of M3) := by rw [e3]; exact rd_D.opn hd
  refine xv_aload_n hX 0 dc_CT_readBasic_6 rfl (rfl : _ = 7) ?_
  refine xv_aload_n hX 1 dc_CT_readBasic_7 rfl (rfl : _ = 8) ?_
  refine xv_calli hX (As := []) (rest := [.ref (Y.2.2.2 c)]) (ct_RD_readTrueIfThere _ Y M3 i3) ml_CT_152 li_RD_readTrueIfThere rfl (by decide) rfl rfl rfl (by decide) ⟨by decide, by decide⟩ ⟨Nat.le_refl _, Nat.le_refl _⟩ (Nat.le_of_ble_eq_true rfl) dc_CT_readBasic_8 (rfl : _ = 11) (fun r8 M8 p8 => ?_)
  obtain ⟨⟨i8, f8, e8⟩, z8⟩ := p8
  have h8 := rs_tru hd3 (fun i h => rd_of_nil h) e8
  rw [b3, e3] at h8
  rw [z8]
  have hif : (if rd_is (M3 3) 1 (rd_of M3) = true then 1 else 0) < 2 := by split <;> decide
  have hcA : ∀ q, q < 6 → (xm_set M8 c 11 (if rd_is (M3 3) 1 (rd_of M3) = true then 1 else 0)) q = M8 q := fun q hq => xm_oth (by omega)
  have iA : rd_I (xm_set M8 c 11 (if rd_is (M3 3) 1 (rd_of M3) = true then 1 else 0)) := i8.cg hcA
  have oA : rd_of (xm_set M8 c 11 (if rd_is (M3 3) 1 (rd_of M3) = true then 1 else 0)) = rd_of M8 := rd_of_cg hcA
  refine xv_putz hX fl_CT_45 rfl hc.1 (xk_N (by omega)) (by omega) dc_CT_readBasic_11 (rfl : _ = 14) ?_
  refine xv_aload_n hX 0 dc_CT_readBasic_14 rfl (rfl : _ = 15) ?_
  refine xv_geti hX fl_CT_45 rfl hc.1 (xk_N (by omega)) (v := (if rd_is (M3 3) 1 (rd_of M3) = true then 1 else 0)) xm_eq dc_CT_readBasic_15 (rfl : _ = 18) ?_
  refine xv_if_eq hX (nI_toInt (by omega)) (tgt := 39) (pq := 21) dc_CT_readBasic_18 (by decide) rfl (fun c18 => ?_) (fun c18 => ?_)
  · skip
    refine xv_aload_n hX 1 dc_CT_readBasic_39 rfl (rfl : _ = 40) ?_
    refine xv_callv hX (As := []) (rest := []) (ct_RD_close _ Y (xm_set M8 c 11 (if rd_is (M3 3) 1 (rd_of M3) = true then 1 else 0)) iA) ml_CT_125 li_RD_close rfl (by decide) rfl rfl rfl (by decide) ⟨by decide, by decide⟩ ⟨Nat.le_refl _, Nat.le_refl _⟩ (Nat.le_of_ble_eq_true rfl) dc_CT_readBasic_40 (rfl : _ = 43) (fun M40 p40 => ?_)
    obtain ⟨i40, f40, e40⟩ := p40
    refine xv_retv hX hR dc_CT_readBasic_43 ?_
    refine ⟨i40, fun q a1 a2 a3 => by rw [f40 q a1 a2, xm_oth a3, f8 q a1 a2, f3 q a1 a2], fun k a1 a2 => by rw [f40 c (by omega) (by omega), xm_nk a1, f8 c (by omega) (by omega), f3 c (by omega) (by omega)], ?_⟩
    have h9 := rs_in (hd.mono (by decide)) (rs_bas1 (s := rd_open (M 3) 48 (rd_of M)) h8 (by rw [← oA]; intro ht; first | omega | (rw [e3, b3] at *; simp_all)))
    rw [e40, oA]
    refine h9.imp (fun z hz => ?_)
    rw [hz]
    have g1 : M40 c 11 = (if rd_is (M3 3) 1 (rd_of M3) = true then 1 else 0) := by rw [f40 c (by omega) (by omega), xm_eq]
    have g2 : M40 c 12 = M c 12 := by rw [f40 c (by omega) (by omega), xm_nk (by decide), f8 c (by omega) (by omega), f3 c (by omega) (by omega)]
    rw [b3, e3] at g1
    exact ⟨g1, g2⟩
  · skip
    have htt : rd_is (M 3) 1 (rd_open (M 3) 48 (rd_of M)) = true := by rw [b3, e3] at c18; cases h : rd_is (M 3) 1 (rd_open (M 3) 48 (rd_of M)) with
      | true => rfl
      | false => rw [h] at c18; simp at c18
    refine xv_aload_n hX 1 dc_CT_readBasic_21 rfl (rfl : _ = 22) ?_
    refine xv_calli hX (As := []) (rest := []) (ct_RD_remaining _ Y (xm_set M8 c 11 (if rd_is (M3 3) 1 (rd_of M3) = true then 1 else 0)) iA) ml_CT_121 li_RD_remaining rfl (by decide) rfl rfl rfl (by decide) ⟨by decide, by decide⟩ ⟨Nat.le_refl _, Nat.le_refl _⟩ (Nat.le_of_ble_eq_true rfl) dc_CT_readBasic_22 (rfl : _ = 25) (fun r22 M22 p22 => ?_)
    rw [p22.1, p22.2]
    have hn := rd_rem_le iA
    refine xv_if_le hX (nI_toInt (by omega)) (tgt := 39) (pq := 28) dc_CT_readBasic_25 (by decide) rfl (fun c25 => ?_) (fun c25 => ?_)
    · skip
      refine xv_aload_n hX 1 dc_CT_readBasic_39 rfl (rfl : _ = 40) ?_
      refine xv_callv hX (As := []) (rest := []) (ct_RD_close _ Y (xm_set M8 c 11 (if rd_is (M3 3) 1 (rd_of M3) = true then 1 else 0)) iA) ml_CT_125 li_RD_close rfl (by decide) rfl rfl rfl (by decide) ⟨by decide, by decide⟩ ⟨Nat.le_refl _, Nat.le_refl _⟩ (Nat.le_of_ble_eq_true rfl) dc_CT_readBasic_40 (rfl : _ = 43) (fun M40 p40 => ?_)
      obtain ⟨i40, f40, e40⟩ := p40
      refine xv_retv hX hR dc_CT_readBasic_43 ?_
      refine ⟨i40, fun q a1 a2 a3 => by rw [f40 q a1 a2, xm_oth a3, f8 q a1 a2, f3 q a1 a2], fun k a1 a2 => by rw [f40 c (by omega) (by omega), xm_nk a1, f8 c (by omega) (by omega), f3 c (by omega) (by omega)], ?_⟩
      have h9 := rs_in (hd.mono (by decide)) (rs_bas1 (s := rd_open (M 3) 48 (rd_of M)) h8 (by rw [← oA]; intro ht; first | omega | (rw [e3, b3] at *; simp_all)))
      rw [e40, oA]
      refine h9.imp (fun z hz => ?_)
      rw [hz]
      have g1 : M40 c 11 = (if rd_is (M3 3) 1 (rd_of M3) = true then 1 else 0) := by rw [f40 c (by omega) (by omega), xm_eq]
      have g2 : M40 c 12 = M c 12 := by rw [f40 c (by omega) (by omega), xm_nk (by decide), f8 c (by omega) (by omega), f3 c (by omega) (by omega)]
      rw [b3, e3] at g1
      exact ⟨g1, g2⟩
    · skip
      refine xv_aload_n hX 0 dc_CT_readBasic_28 rfl (rfl : _ = 29) ?_
      refine xv_aload_n hX 1 dc_CT_readBasic_29 rfl (rfl : _ = 30) ?_
      refine xv_iconst hX (v := nI 0) dc_CT_readBasic_30 (by decide) (rfl : _ = 31) ?_
      refine xv_ldc hX (v := nI 2147483647) kc_CT_132 dc_CT_readBasic_31 (rfl : _ = 33) ?_
      refine xv_calli hX (As := [.int (nI 0), .int (nI 2147483647)]) (rest := [.ref (Y.2.2.2 c)]) (ct_RD_readInteger _ Y (xm_set M8 c 11 (if rd_is (M3 3) 1 (rd_of M3) = true then 1 else 0)) 0 2147483647 iA (by decide) (by decide)) ml_CT_133 li_RD_readInteger rfl (by decide) rfl rfl rfl (by decide) ⟨by decide, by decide⟩ ⟨Nat.le_refl _, Nat.le_refl _⟩ (Nat.le_of_ble_eq_true rfl) dc_CT_readBasic_33 (rfl : _ = 36) (fun r33 M33 p33 => ?_)
      obtain ⟨⟨i33, f33, e33⟩, w, z33, hw1, hw2, hw3⟩ := p33
      rw [z33]
      rw [oA, hcA 3 (by decide), f8 3 (by decide) (by decide), b3] at e33 hw3
      have hd8 : rd_D 1 (rd_of M8) := rs_D h8 (by rw [← e3]; exact hd3)
      have h33 := rs_int hd8 e33 hw3
      have hc9 : ∀ q, q < 6 → (xm_set M33 c 12 w) q = M33 q := fun q hq => xm_oth (by omega)
      have i9 : rd_I (xm_set M33 c 12 w) := i33.cg hc9
      rw [oA] at c25
      refine xv_puti hX fl_CT_49 rfl hc.1 (xk_N (by omega)) dc_CT_readBasic_36 (rfl : _ = 39) ?_
      refine xv_aload_n hX 1 dc_CT_readBasic_39 rfl (rfl : _ = 40) ?_
      refine xv_callv hX (As := []) (rest := []) (ct_RD_close _ Y (xm_set M33 c 12 w) i9) ml_CT_125 li_RD_close rfl (by decide) rfl rfl rfl (by decide) ⟨by decide, by decide⟩ ⟨Nat.le_refl _, Nat.le_refl _⟩ (Nat.le_of_ble_eq_true rfl) dc_CT_readBasic_40 (rfl : _ = 43) (fun M40 p40 => ?_)
      obtain ⟨i40, f40, e40⟩ := p40
      refine xv_retv hX hR dc_CT_readBasic_43 ?_
      refine ⟨i40, fun q a1 a2 a3 => by rw [f40 q a1 a2, xm_oth a3, f33 q a1 a2, xm_oth a3, f8 q a1 a2, f3 q a1 a2], fun k a1 a2 => by rw [f40 c (by omega) (by omega), xm_nk a2, f33 c (by omega) (by omega), xm_nk a1, f8 c (by omega) (by omega), f3 c (by omega) (by omega)], ?_⟩
      have h9 := rs_in (hd.mono (by decide)) (rs_bas2 (s := rd_open (M 3) 48 (rd_of M)) (by rw [← htt]; exact h8) (by omega) h33)
      rw [e40, rd_of_cg hc9]
      refine h9.imp (fun z hz => ?_)
      rw [hz]
      have g1 : M40 c 11 = 1 := by rw [f40 c (by omega) (by omega), xm_nk (by decide), f33 c (by omega) (by omega), xm_eq, b3, e3, htt]; rfl
      have g2 : M40 c 12 = w := by rw [f40 c (by omega) (by omega), xm_eq]
      exact ⟨g1, g2⟩
end
section
/-! Certificate: usage and bounds -/
set_option maxRecDepth 100000 in
set_option maxHeartbeats 4000000 in
theorem ct_CT_readUsage (l : Launch) (Y : xw_Y) (M : xm_M) (c : Nat) (hc : xk_ct c) (hI : rd_I M) (hd : rd_D 1 (rd_of M)) : xc_v l qm_CT_readUsage 1 Y [.ref (Y.2.2.2 c), .ref (Y.2.2.2 1)] M (fun M1 => rd_I M1 ∧ (∀ q, q ≠ 1 → q ≠ 4 → q ≠ c → M1 q = M q) ∧ (∀ k, k ≠ 13 → M1 c k = M c k) ∧ rs_ok (rd_run (ps_bits (M 3)) (rd_of M)) (rd_of M1) (fun z => M1 c 13 = ps_mir z 8)) := by
  refine xc_v.mk rfl (by decide) (Nat.le_of_ble_eq_true rfl) ?_
  intro X hXl hX hR
  subst hXl
  have hX : xv_ok X Y prog_3_method_16_code "CertificatePath$Certificate" 4 (xc_rm 1) := hX
  show xv_V X Y 4 0 0 xw_lk xw_N M 0 [(0, .ref (Y.2.2.2 c)), (1, .ref (Y.2.2.2 1))] []
  have hc6 : 6 ≤ c := hc.2.2.2.2.2.2.1
  have hc29 : c + 29 < 276 := hc.2.2.2.2.2.2.2
  refine xv_aload_n hX 1 dc_CT_readUsage_0 rfl (rfl : _ = 1) ?_
  refine xv_iconst hX (v := nI 3) dc_CT_readUsage_1 (by decide) (rfl : _ = 2) ?_
  refine xv_callv hX (As := [.int (nI 3)]) (rest := []) (ct_RD_open _ Y M 3 hI (by decide)) ml_CT_102 li_RD_open rfl (by decide) rfl rfl rfl (by decide) ⟨by decide, by decide⟩ ⟨Nat.le_refl _, Nat.le_refl _⟩ (Nat.le_of_ble_eq_true rfl) dc_CT_readUsage_2 (rfl : _ = 5) (fun M2 p2 => ?_)
  obtain ⟨i2, f2, e2⟩ := p2
  have b2 : M2 3 = M 3 := f2 3 (by decide) (by decide)
  refine xv_aload_n hX 1 dc_CT_readUsage_5 rfl (rfl : _ = 6) ?_
  refine xv_calli hX (As := []) (rest := []) (ct_RD_readByte _ Y M2 i2) ml_CT_167 li_RD_readByte rfl (by decide) rfl rfl rfl (by decide) ⟨by decide, by decide⟩ ⟨Nat.le_refl _, Nat.le_refl _⟩ (Nat.le_of_ble_eq_true rfl) dc_CT_readUsage_6 (rfl : _ = 9) (fun r6 M6 p6 => ?_)
  obtain ⟨⟨i6, f6, e6⟩, z6⟩ := p6
  rw [b2, e2] at z6
  rw [e2] at e6
  have hu1 : rd_byte (M 3) (rd_open (M 3) 3 (rd_of M)) < 256 := by have h := rd_byte_lt i2; rw [b2, e2] at h; exact h
  obtain ⟨u, hu⟩ : ∃ u, rd_byte (M 3) (rd_open (M 3) 3 (rd_of M)) = u := ⟨_, rfl⟩
  rw [z6, hu]
  rw [hu] at hu1
  have b6 : M6 3 = M 3 := by rw [f6 3 (by decide) (by decide), b2]
  refine xv_istore_n hX [1, 2, 0] dc_CT_readUsage_9 (by decide) (L' := [(0, .ref (Y.2.2.2 c)), (1, .ref (Y.2.2.2 1)), (2, .int (nI u))]) rfl (rfl : _ = 10) ?_
  refine xv_iconst hX (v := nI 0) dc_CT_readUsage_10 (by decide) (rfl : _ = 11) ?_
  refine xv_istore_n hX [1, 2, 3, 0] dc_CT_readUsage_11 (by decide) (L' := [(0, .ref (Y.2.2.2 c)), (1, .ref (Y.2.2.2 1)), (2, .int (nI u)), (3, .int (nI 0))]) rfl (rfl : _ = 12) ?_
  refine xv_aload_n hX 1 dc_CT_readUsage_12 rfl (rfl : _ = 13) ?_
  refine xv_calli hX (As := []) (rest := []) (ct_RD_remaining _ Y M6 i6) ml_CT_121 li_RD_remaining rfl (by decide) rfl rfl rfl (by decide) ⟨by decide, by decide⟩ ⟨Nat.le_refl _, Nat.le_refl _⟩ (Nat.le_of_ble_eq_true rfl) dc_CT_readUsage_13 (rfl : _ = 16) (fun r13 M13 p13 => ?_)
  rw [p13.1, p13.2]
  have hn := rd_rem_le i6
  refine xv_if_le hX (nI_toInt (by omega)) (tgt := 43) (pq := 19) dc_CT_readUsage_16 (by decide) rfl (fun c16 => ?_) (fun c16 => ?_)
  · skip
    refine xv_iload_n hX 2 dc_CT_readUsage_43 rfl (rfl : _ = 44) ?_
    refine xv_if_eq hX (nI_toInt (by omega)) (tgt := 51) (pq := 47) dc_CT_readUsage_44 (by decide) rfl (fun c44 => ?_) (fun c44 => ?_)
    · skip
      refine xv_aload_n hX 0 dc_CT_readUsage_51 rfl (rfl : _ = 52) ?_
      refine xv_iload_n hX 3 dc_CT_readUsage_52 rfl (rfl : _ = 53) ?_
      refine xv_callsi hX (As := [.int (nI 0)]) (rest := [.ref (Y.2.2.2 c)]) (ct_CT_mirrored _ Y M6 0 (by omega)) ml_CT_173 ls_CT_mirrored rfl (by decide) ⟨by decide, by decide⟩ ⟨Nat.le_refl _, Nat.le_refl _⟩ (Nat.le_of_ble_eq_true rfl) dc_CT_readUsage_53 (rfl : _ = 56) (fun r53 M53 p53 => ?_)
      rw [p53.1, p53.2]
      have hbit : rs_ok (rd_run (ps_bit (M 3)) (rd_open (M 3) 3 (rd_of M))) (rd_of M6) (fun x => x = 0) := by
        refine rs_bit (fun i h => rd_of_nil (e2.trans h)) (fun h => ?_) (fun h => ?_)
        · exact ⟨rfl, by rw [hu, if_pos (by omega)]; exact e6⟩
        · exact absurd h (by rw [← e6]; omega)
      have hcU : ∀ q, q < 6 → (xm_set M6 c 13 (ps_mir 0 8)) q = M6 q := fun q hq => xm_oth (by omega)
      have fU := (f2.tr f6)
      refine xv_puti hX fl_CT_52 rfl hc.1 (xk_N (by omega)) dc_CT_readUsage_56 (rfl : _ = 59) ?_
      refine xv_aload_n hX 1 dc_CT_readUsage_59 rfl (rfl : _ = 60) ?_
      refine xv_callv hX (As := []) (rest := []) (ct_RD_close _ Y (xm_set M6 c 13 (ps_mir 0 8)) (i6.cg hcU)) ml_CT_125 li_RD_close rfl (by decide) rfl rfl rfl (by decide) ⟨by decide, by decide⟩ ⟨Nat.le_refl _, Nat.le_refl _⟩ (Nat.le_of_ble_eq_true rfl) dc_CT_readUsage_60 (rfl : _ = 63) (fun M60 p60 => ?_)
      obtain ⟨i60, f60, e60⟩ := p60
      refine xv_retv hX hR dc_CT_readUsage_63 ?_
      refine ⟨i60, fun q a1 a2 a3 => by rw [f60 q a1 a2, xm_oth a3, fU q a1 a2], fun k a1 => by rw [f60 c (by omega) (by omega), xm_nk a1, fU c (by omega) (by omega)], ?_⟩
      have h9 := rs_in hd hbit
      rw [e60, rd_of_cg hcU]
      refine h9.imp (fun z hz => ?_)
      rw [hz, f60 c (by omega) (by omega), xm_eq]
    · skip
      refine xv_aload_n hX 1 dc_CT_readUsage_47 rfl (rfl : _ = 48) ?_
      refine xv_callv hX (As := []) (rest := []) (ct_RD_refuse _ Y M6 i6) ml_CT_146 li_RD_refuse rfl (by decide) rfl rfl rfl (by decide) ⟨by decide, by decide⟩ ⟨Nat.le_refl _, Nat.le_refl _⟩ (Nat.le_of_ble_eq_true rfl) dc_CT_readUsage_48 (rfl : _ = 51) (fun M48 p48 => ?_)
      obtain ⟨i48, f48, e48⟩ := p48
      refine xv_aload_n hX 0 dc_CT_readUsage_51 rfl (rfl : _ = 52) ?_
      refine xv_iload_n hX 3 dc_CT_readUsage_52 rfl (rfl : _ = 53) ?_
      refine xv_callsi hX (As := [.int (nI 0)]) (rest := [.ref (Y.2.2.2 c)]) (ct_CT_mirrored _ Y M48 0 (by omega)) ml_CT_173 ls_CT_mirrored rfl (by decide) ⟨by decide, by decide⟩ ⟨Nat.le_refl _, Nat.le_refl _⟩ (Nat.le_of_ble_eq_true rfl) dc_CT_readUsage_53 (rfl : _ = 56) (fun r53 M53 p53 => ?_)
      rw [p53.1, p53.2]
      have hbit : rs_ok (rd_run (ps_bit (M 3)) (rd_open (M 3) 3 (rd_of M))) (rd_of M48) (fun x => x = 0) := by
        refine rs_bit (fun i h => rd_of_nil (e2.trans h)) (fun h => ?_) (fun h => ?_)
        · exact ⟨rfl, by rw [hu, if_neg (by omega)]; exact e48⟩
        · exact absurd h (by rw [← e6]; omega)
      have hcU : ∀ q, q < 6 → (xm_set M48 c 13 (ps_mir 0 8)) q = M48 q := fun q hq => xm_oth (by omega)
      have fU := ((f2.tr f6).tr f48)
      refine xv_puti hX fl_CT_52 rfl hc.1 (xk_N (by omega)) dc_CT_readUsage_56 (rfl : _ = 59) ?_
      refine xv_aload_n hX 1 dc_CT_readUsage_59 rfl (rfl : _ = 60) ?_
      refine xv_callv hX (As := []) (rest := []) (ct_RD_close _ Y (xm_set M48 c 13 (ps_mir 0 8)) (i48.cg hcU)) ml_CT_125 li_RD_close rfl (by decide) rfl rfl rfl (by decide) ⟨by decide, by decide⟩ ⟨Nat.le_refl _, Nat.le_refl _⟩ (Nat.le_of_ble_eq_true rfl) dc_CT_readUsage_60 (rfl : _ = 63) (fun M60 p60 => ?_)
      obtain ⟨i60, f60, e60⟩ := p60
      refine xv_retv hX hR dc_CT_readUsage_63 ?_
      refine ⟨i60, fun q a1 a2 a3 => by rw [f60 q a1 a2, xm_oth a3, fU q a1 a2], fun k a1 => by rw [f60 c (by omega) (by omega), xm_nk a1, fU c (by omega) (by omega)], ?_⟩
      have h9 := rs_in hd hbit
      rw [e60, rd_of_cg hcU]
      refine h9.imp (fun z hz => ?_)
      rw [hz, f60 c (by omega) (by omega), xm_eq]
  · skip
    refine xv_aload_n hX 1 dc_CT_readUsage_19 rfl (rfl : _ = 20) ?_
    refine xv_calli hX (As := []) (rest := []) (ct_RD_readByte _ Y M6 i6) ml_CT_167 li_RD_readByte rfl (by decide) rfl rfl rfl (by decide) ⟨by decide, by decide⟩ ⟨Nat.le_refl _, Nat.le_refl _⟩ (Nat.le_of_ble_eq_true rfl) dc_CT_readUsage_20 (rfl : _ = 23) (fun r20 M20 p20 => ?_)
    obtain ⟨⟨i20, f20, e20⟩, z20⟩ := p20
    rw [b6] at z20
    have hw1 : rd_byte (M 3) (rd_of M6) < 256 := by have h := rd_byte_lt i6; rw [b6] at h; exact h
    obtain ⟨w, hw⟩ : ∃ w, rd_byte (M 3) (rd_of M6) = w := ⟨_, rfl⟩
    rw [z20, hw]
    rw [hw] at hw1
    refine xv_istore_n hX [1, 2, 3, 0] dc_CT_readUsage_23 (by decide) (L' := [(0, .ref (Y.2.2.2 c)), (1, .ref (Y.2.2.2 1)), (2, .int (nI u)), (3, .int (nI w))]) rfl (rfl : _ = 24) ?_
    refine xv_iload_n hX 3 dc_CT_readUsage_24 rfl (rfl : _ = 25) ?_
    refine xv_if_eq hX (nI_toInt (by omega)) (tgt := 36) (pq := 28) dc_CT_readUsage_25 (by decide) rfl (fun c25 => ?_) (fun c25 => ?_)
    · skip
      refine xv_aload_n hX 1 dc_CT_readUsage_36 rfl (rfl : _ = 37) ?_
      refine xv_callv hX (As := []) (rest := []) (ct_RD_refuse _ Y M20 i20) ml_CT_146 li_RD_refuse rfl (by decide) rfl rfl rfl (by decide) ⟨by decide, by decide⟩ ⟨Nat.le_refl _, Nat.le_refl _⟩ (Nat.le_of_ble_eq_true rfl) dc_CT_readUsage_37 (rfl : _ = 40) (fun M37 p37 => ?_)
      obtain ⟨i37, f37, e37⟩ := p37
      refine xv_goto hX (pq := 51) dc_CT_readUsage_40 (by decide) ?_
      refine xv_aload_n hX 0 dc_CT_readUsage_51 rfl (rfl : _ = 52) ?_
      refine xv_iload_n hX 3 dc_CT_readUsage_52 rfl (rfl : _ = 53) ?_
      refine xv_callsi hX (As := [.int (nI w)]) (rest := [.ref (Y.2.2.2 c)]) (ct_CT_mirrored _ Y M37 w (by omega)) ml_CT_173 ls_CT_mirrored rfl (by decide) ⟨by decide, by decide⟩ ⟨Nat.le_refl _, Nat.le_refl _⟩ (Nat.le_of_ble_eq_true rfl) dc_CT_readUsage_53 (rfl : _ = 56) (fun r53 M53 p53 => ?_)
      rw [p53.1, p53.2]
      have hbit : rs_ok (rd_run (ps_bit (M 3)) (rd_open (M 3) 3 (rd_of M))) (rd_of M37) (fun x => x = w) := by
        refine rs_bit (fun i h => rd_of_nil (e2.trans h)) (fun h => ?_) (fun h => ?_)
        · exact absurd h (by rw [← e6]; omega)
        · exact ⟨by rw [← e6]; exact hw.symm, by rw [← e6, hw, hu, if_neg (by omega)]; exact e37⟩
      have hcU : ∀ q, q < 6 → (xm_set M37 c 13 (ps_mir w 8)) q = M37 q := fun q hq => xm_oth (by omega)
      have fU := (((f2.tr f6).tr f20).tr f37)
      refine xv_puti hX fl_CT_52 rfl hc.1 (xk_N (by omega)) dc_CT_readUsage_56 (rfl : _ = 59) ?_
      refine xv_aload_n hX 1 dc_CT_readUsage_59 rfl (rfl : _ = 60) ?_
      refine xv_callv hX (As := []) (rest := []) (ct_RD_close _ Y (xm_set M37 c 13 (ps_mir w 8)) (i37.cg hcU)) ml_CT_125 li_RD_close rfl (by decide) rfl rfl rfl (by decide) ⟨by decide, by decide⟩ ⟨Nat.le_refl _, Nat.le_refl _⟩ (Nat.le_of_ble_eq_true rfl) dc_CT_readUsage_60 (rfl : _ = 63) (fun M60 p60 => ?_)
      obtain ⟨i60, f60, e60⟩ := p60
      refine xv_retv hX hR dc_CT_readUsage_63 ?_
      refine ⟨i60, fun q a1 a2 a3 => by rw [f60 q a1 a2, xm_oth a3, fU q a1 a2], fun k a1 => by rw [f60 c (by omega) (by omega), xm_nk a1, fU c (by omega) (by omega)], ?_⟩
      have h9 := rs_in hd hbit
      rw [e60, rd_of_cg hcU]
      refine h9.imp (fun z hz => ?_)
      rw [hz, f60 c (by omega) (by omega), xm_eq]
    · skip
      refine xv_iload_n hX 2 dc_CT_readUsage_28 rfl (rfl : _ = 29) ?_
      refine xv_iload_n hX 3 dc_CT_readUsage_29 rfl (rfl : _ = 30) ?_
      refine xv_callsi hX (As := [.int (nI w)]) (rest := [.int (nI u)]) (ct_CT_zerosBehind _ Y M20 w hw1) ml_CT_170 ls_CT_zerosBehind rfl (by decide) ⟨by decide, by decide⟩ ⟨Nat.le_refl _, Nat.le_refl _⟩ (Nat.le_of_ble_eq_true rfl) dc_CT_readUsage_30 (rfl : _ = 33) (fun r30 M30 p30 => ?_)
      rw [p30.1, p30.2]
      have htz := ps_tz_lt w 8 0
      refine xv_icmp_eq hX (nI_toInt (by omega)) (nI_toInt (by omega)) (tgt := 51) (pq := 36) dc_CT_readUsage_33 (by decide) rfl (fun c33 => ?_) (fun c33 => ?_)
      · skip
        have e20 : rd_of M20 = rd_next (rd_of M6) := e20
        refine xv_aload_n hX 0 dc_CT_readUsage_51 rfl (rfl : _ = 52) ?_
        refine xv_iload_n hX 3 dc_CT_readUsage_52 rfl (rfl : _ = 53) ?_
        refine xv_callsi hX (As := [.int (nI w)]) (rest := [.ref (Y.2.2.2 c)]) (ct_CT_mirrored _ Y M20 w (by omega)) ml_CT_173 ls_CT_mirrored rfl (by decide) ⟨by decide, by decide⟩ ⟨Nat.le_refl _, Nat.le_refl _⟩ (Nat.le_of_ble_eq_true rfl) dc_CT_readUsage_53 (rfl : _ = 56) (fun r53 M53 p53 => ?_)
        rw [p53.1, p53.2]
        have hbit : rs_ok (rd_run (ps_bit (M 3)) (rd_open (M 3) 3 (rd_of M))) (rd_of M20) (fun x => x = w) := by
          refine rs_bit (fun i h => rd_of_nil (e2.trans h)) (fun h => ?_) (fun h => ?_)
          · exact absurd h (by rw [← e6]; omega)
          · exact ⟨by rw [← e6]; exact hw.symm, by rw [← e6, hw, hu, if_pos (by omega)]; exact e20⟩
        have hcU : ∀ q, q < 6 → (xm_set M20 c 13 (ps_mir w 8)) q = M20 q := fun q hq => xm_oth (by omega)
        have fU := ((f2.tr f6).tr f20)
        refine xv_puti hX fl_CT_52 rfl hc.1 (xk_N (by omega)) dc_CT_readUsage_56 (rfl : _ = 59) ?_
        refine xv_aload_n hX 1 dc_CT_readUsage_59 rfl (rfl : _ = 60) ?_
        refine xv_callv hX (As := []) (rest := []) (ct_RD_close _ Y (xm_set M20 c 13 (ps_mir w 8)) (i20.cg hcU)) ml_CT_125 li_RD_close rfl (by decide) rfl rfl rfl (by decide) ⟨by decide, by decide⟩ ⟨Nat.le_refl _, Nat.le_refl _⟩ (Nat.le_of_ble_eq_true rfl) dc_CT_readUsage_60 (rfl : _ = 63) (fun M60 p60 => ?_)
        obtain ⟨i60, f60, e60⟩ := p60
        refine xv_retv hX hR dc_CT_readUsage_63 ?_
        refine ⟨i60, fun q a1 a2 a3 => by rw [f60 q a1 a2, xm_oth a3, fU q a1 a2], fun k a1 => by rw [f60 c (by omega) (by omega), xm_nk a1, fU c (by omega) (by omega)], ?_⟩
        have h9 := rs_in hd hbit
        rw [e60, rd_of_cg hcU]
        refine h9.imp (fun z hz => ?_)
        rw [hz, f60 c (by omega) (by omega), xm_eq]
      · skip
        refine xv_aload_n hX 1 dc_CT_readUsage_36 rfl (rfl : _ = 37) ?_
        refine xv_callv hX (As := []) (rest := []) (ct_RD_refuse _ Y M20 i20) ml_CT_146 li_RD_refuse rfl (by decide) rfl rfl rfl (by decide) ⟨by decide, by decide⟩ ⟨Nat.le_refl _, Nat.le_refl _⟩ (Nat.le_of_ble_eq_true rfl) dc_CT_readUsage_37 (rfl : _ = 40) (fun M37 p37 => ?_)
        obtain ⟨i37, f37, e37⟩ := p37
        refine xv_goto hX (pq := 51) dc_CT_readUsage_40 (by decide) ?_
        refine xv_aload_n hX 0 dc_CT_readUsage_51 rfl (rfl : _ = 52) ?_
        refine xv_iload_n hX 3 dc_CT_readUsage_52 rfl (rfl : _ = 53) ?_
        refine xv_callsi hX (As := [.int (nI w)]) (rest := [.ref (Y.2.2.2 c)]) (ct_CT_mirrored _ Y M37 w (by omega)) ml_CT_173 ls_CT_mirrored rfl (by decide) ⟨by decide, by decide⟩ ⟨Nat.le_refl _, Nat.le_refl _⟩ (Nat.le_of_ble_eq_true rfl) dc_CT_readUsage_53 (rfl : _ = 56) (fun r53 M53 p53 => ?_)
        rw [p53.1, p53.2]
        have hbit : rs_ok (rd_run (ps_bit (M 3)) (rd_open (M 3) 3 (rd_of M))) (rd_of M37) (fun x => x = w) := by
          refine rs_bit (fun i h => rd_of_nil (e2.trans h)) (fun h => ?_) (fun h => ?_)
          · exact absurd h (by rw [← e6]; omega)
          · exact ⟨by rw [← e6]; exact hw.symm, by rw [← e6, hw, hu, if_neg (by omega)]; exact e37⟩
        have hcU : ∀ q, q < 6 → (xm_set M37 c 13 (ps_mir w 8)) q = M37 q := fun q hq => xm_oth (by omega)
        have fU := (((f2.tr f6).tr f20).tr f37)
        refine xv_puti hX fl_CT_52 rfl hc.1 (xk_N (by omega)) dc_CT_readUsage_56 (rfl : _ = 59) ?_
        refine xv_aload_n hX 1 dc_CT_readUsage_59 rfl (rfl : _ = 60) ?_
        refine xv_callv hX (As := []) (rest := []) (ct_RD_close _ Y (xm_set M37 c 13 (ps_mir w 8)) (i37.cg hcU)) ml_CT_125 li_RD_close rfl (by decide) rfl rfl rfl (by decide) ⟨by decide, by decide⟩ ⟨Nat.le_refl _, Nat.le_refl _⟩ (Nat.le_of_ble_eq_true rfl) dc_CT_readUsage_60 (rfl : _ = 63) (fun M60 p60 => ?_)
        obtain ⟨i60, f60, e60⟩ := p60
        refine xv_retv hX hR dc_CT_readUsage_63 ?_
        refine ⟨i60, fun q a1 a2 a3 => by rw [f60 q a1 a2, xm_oth a3, fU q a1 a2], fun k a1 => by rw [f60 c (by omega) (by omega), xm_nk a1, fU c (by omega) (by omega)], ?_⟩
        have h9 := rs_in hd hbit
        rw [e60, rd_of_cg hcU]
        refine h9.imp (fun z hz => ?_)
        rw [hz, f60 c (by omega) (by omega), xm_eq]

set_option maxRecDepth 100000 in
set_option maxHeartbeats 4000000 in
theorem ct_CT_readBounds (l : Launch) (Y : xw_Y) (M : xm_M) (c : Nat) (hc : xk_ct c) (hI : rd_I M) (hd : rd_D 4 (rd_of M)) : xc_v l qm_CT_readBounds 3 Y [.ref (Y.2.2.2 c), .ref (Y.2.2.2 1)] M (fun M1 => rd_I M1 ∧ (∀ q, q ≠ 1 → q ≠ 4 → (q < c + 14 ∨ c + 30 ≤ q) → M1 q = M q) ∧ M1 (c + 14) 1 ≤ 3 ∧ M1 (c + 22) 1 ≤ 3 ∧ rs_ok (rd_run (ps_bounds (M 3)) (rd_of M)) (rd_of M1) (fun z => nl_is M1 (c + 14) z.1 ∧ nl_is M1 (c + 22) z.2)) := by
  refine xc_v.mk rfl (by decide) (Nat.le_of_ble_eq_true rfl) ?_
  intro X hXl hX hR
  subst hXl
  have hX : xv_ok X Y prog_3_method_17_code "CertificatePath$Certificate" 2 (xc_rm 3) := hX
  show xv_V X Y 2 0 0 xw_lk xw_N M 0 [(0, .ref (Y.2.2.2 c)), (1, .ref (Y.2.2.2 1))] []
  have hc6 : 6 ≤ c := hc.2.2.2.2.2.2.1
  have hc29 : c + 29 < 276 := hc.2.2.2.2.2.2.2
  refine xv_aload_n hX 1 dc_CT_readBounds_0 rfl (rfl : _ = 1) ?_
  refine xv_bipush hX (v := nI 48) dc_CT_readBounds_1 (by decide) (rfl : _ = 3) ?_
  refine xv_callv hX (As := [.int (nI 48)]) (rest := []) (ct_RD_open _ Y M 48 hI (by decide)) ml_CT_102 li_RD_open rfl (by decide) rfl rfl rfl (by decide) ⟨by decide, by decide⟩ ⟨Nat.le_refl _, Nat.le_refl _⟩ (Nat.le_of_ble_eq_true rfl) dc_CT_readBounds_3 (rfl : _ = 6) (fun M3 p3 => ?_)
  obtain ⟨i3, f3, e3⟩ := p3
  have b3 : M3 3 = M 3 := f3 3 (by decide) (by decide)
  have hd3 : rd_D 3 (rd_of M3) := by rw [e3]; exact rd_D.opn hd
  refine xv_aload_n hX 0 dc_CT_readBounds_6 rfl (rfl : _ = 7) ?_
  refine xv_getr hX fl_CT_31 rfl hc.1 (xk_N (by omega)) hc.2.2.2.2.1.1 dc_CT_readBounds_7 (rfl : _ = 10) ?_
  refine xv_aload_n hX 1 dc_CT_readBounds_10 rfl (rfl : _ = 11) ?_
  refine xv_sipush hX (v := nI 160) dc_CT_readBounds_11 (by decide) (rfl : _ = 14) ?_
  refine xv_callv hX (As := [.ref (Y.2.2.2 1), .int (nI 160)]) (rest := []) (ct_NL_readIfThere _ Y M3 (c + 14) 160 hc.2.2.2.2.1.2 (by decide) i3 hd3) ml_CT_176 li_NL_readIfThere hc.2.2.2.2.1.2.1 (xk_N (by have := hc.2.2.2.2.1.2.2.2.2.2.2; omega)) rfl rfl rfl (by decide) ⟨by decide, by decide⟩ ⟨Nat.le_refl _, Nat.le_refl _⟩ (Nat.le_of_ble_eq_true rfl) dc_CT_readBounds_14 (rfl : _ = 17) (fun M14 p14 => ?_)
  obtain ⟨i14, f14, z14, h14⟩ := p14
  have h14 := rs_tr h14
  rw [b3] at h14
  have hd14 : rd_D 3 (rd_of M14) := rs_D h14 hd3
  have b14 : M14 3 = M 3 := by rw [f14 3 (by decide) (by decide) (by omega), b3]
  refine xv_aload_n hX 0 dc_CT_readBounds_17 rfl (rfl : _ = 18) ?_
  refine xv_getr hX fl_CT_35 rfl hc.1 (xk_N (by omega)) hc.2.2.2.2.2.1.1 dc_CT_readBounds_18 (rfl : _ = 21) ?_
  refine xv_aload_n hX 1 dc_CT_readBounds_21 rfl (rfl : _ = 22) ?_
  refine xv_sipush hX (v := nI 161) dc_CT_readBounds_22 (by decide) (rfl : _ = 25) ?_
  refine xv_callv hX (As := [.ref (Y.2.2.2 1), .int (nI 161)]) (rest := []) (ct_NL_readIfThere _ Y M14 (c + 22) 161 hc.2.2.2.2.2.1.2 (by decide) i14 hd14) ml_CT_176 li_NL_readIfThere hc.2.2.2.2.2.1.2.1 (xk_N (by have := hc.2.2.2.2.2.1.2.2.2.2.2.2; omega)) rfl rfl rfl (by decide) ⟨by decide, by decide⟩ ⟨Nat.le_refl _, Nat.le_refl _⟩ (Nat.le_of_ble_eq_true rfl) dc_CT_readBounds_25 (rfl : _ = 28) (fun M25 p25 => ?_)
  obtain ⟨i25, f25, z25, h25⟩ := p25
  have h25 := rs_tr h25
  rw [b14] at h25
  have z14b : M25 (c + 14) 1 ≤ 3 := by rw [f25 (c + 14) (by omega) (by omega) (by omega)]; exact z14
  refine xv_aload_n hX 0 dc_CT_readBounds_28 rfl (rfl : _ = 29) ?_
  refine xv_getr hX fl_CT_31 rfl hc.1 (xk_N (by omega)) hc.2.2.2.2.1.1 dc_CT_readBounds_29 (rfl : _ = 32) ?_
  refine xv_geti hX fl_CT_55 rfl hc.2.2.2.2.1.2.1 (xk_N (by have := hc.2.2.2.2.1.2.2.2.2.2.2; omega)) (v := M25 (c + 14) 1) rfl dc_CT_readBounds_32 (rfl : _ = 35) ?_
  refine xv_if_ne hX (nI_toInt (by omega)) (tgt := 52) (pq := 38) dc_CT_readBounds_35 (by decide) rfl (fun c35 => ?_) (fun c35 => ?_)
  · skip
    refine xv_aload_n hX 1 dc_CT_readBounds_52 rfl (rfl : _ = 53) ?_
    refine xv_callv hX (As := []) (rest := []) (ct_RD_close _ Y M25 i25) ml_CT_125 li_RD_close rfl (by decide) rfl rfl rfl (by decide) ⟨by decide, by decide⟩ ⟨Nat.le_refl _, Nat.le_refl _⟩ (Nat.le_of_ble_eq_true rfl) dc_CT_readBounds_53 (rfl : _ = 56) (fun M53 p53 => ?_)
    obtain ⟨i53, f53, e53⟩ := p53
    have f9 : rd_F M25 M53 := f53
    have hs9 : rd_of M25 = if M25 (c + 14) 1 = 0 ∧ M25 (c + 22) 1 = 0 then none else rd_of M25 := by rw [if_neg (by omega)]
    rw [hs9] at e53
    refine xv_retv hX hR dc_CT_readBounds_56 ?_
    refine ⟨i53, fun q a1 a2 a3 => by rw [f9 q a1 a2, f25 q a1 a2 (by omega), f14 q a1 a2 (by omega), f3 q a1 a2], by rw [f9 _ (by omega) (by omega)]; exact z14b, by rw [f9 _ (by omega) (by omega)]; exact z25, ?_⟩
    have h9 := rs_bnd (V := fun x => nl_is M25 (c + 14) x ∧ x.length ≤ 3) (W := fun x => nl_is M25 (c + 22) x ∧ x.length ≤ 3) (m := M25 (c + 14) 1) (n := M25 (c + 22) 1) (h14.imp (fun x hx => ⟨nl_is_cg (by have := hx.1; omega) (fun q a1 a2 => f25 q (by omega) (by omega) (by omega)) hx, by have := hx.1; omega⟩)) (h25.imp (fun x hx => ⟨hx, by have := hx.1; omega⟩)) (fun x hx => hx.1.1.symm) (fun x hx => hx.1.1.symm) rfl
    rw [e3] at h9
    have h9 := rs_in (hd.mono (by decide)) h9
    rw [e53]
    exact h9.imp (fun z hz => ⟨nl_is_cg hz.1.2 (fun q a1 a2 => f9 q (by omega) (by omega)) hz.1.1, nl_is_cg hz.2.2 (fun q a1 a2 => f9 q (by omega) (by omega)) hz.2.1⟩)
  · skip
    refine xv_aload_n hX 0 dc_CT_readBounds_38 rfl (rfl : _ = 39) ?_
    refine xv_getr hX fl_CT_35 rfl hc.1 (xk_N (by omega)) hc.2.2.2.2.2.1.1 dc_CT_readBounds_39 (rfl : _ = 42) ?_
    refine xv_geti hX fl_CT_55 rfl hc.2.2.2.2.2.1.2.1 (xk_N (by have := hc.2.2.2.2.2.1.2.2.2.2.2.2; omega)) (v := M25 (c + 22) 1) rfl dc_CT_readBounds_42 (rfl : _ = 45) ?_
    refine xv_if_ne hX (nI_toInt (by omega)) (tgt := 52) (pq := 48) dc_CT_readBounds_45 (by decide) rfl (fun c45 => ?_) (fun c45 => ?_)
    · skip
      refine xv_aload_n hX 1 dc_CT_readBounds_52 rfl (rfl : _ = 53) ?_
      refine xv_callv hX (As := []) (rest := []) (ct_RD_close _ Y M25 i25) ml_CT_125 li_RD_close rfl (by decide) rfl rfl rfl (by decide) ⟨by decide, by decide⟩ ⟨Nat.le_refl _, Nat.le_refl _⟩ (Nat.le_of_ble_eq_true rfl) dc_CT_readBounds_53 (rfl : _ = 56) (fun M53 p53 => ?_)
      obtain ⟨i53, f53, e53⟩ := p53
      have f9 : rd_F M25 M53 := f53
      have hs9 : rd_of M25 = if M25 (c + 14) 1 = 0 ∧ M25 (c + 22) 1 = 0 then none else rd_of M25 := by rw [if_neg (by omega)]
      rw [hs9] at e53
      refine xv_retv hX hR dc_CT_readBounds_56 ?_
      refine ⟨i53, fun q a1 a2 a3 => by rw [f9 q a1 a2, f25 q a1 a2 (by omega), f14 q a1 a2 (by omega), f3 q a1 a2], by rw [f9 _ (by omega) (by omega)]; exact z14b, by rw [f9 _ (by omega) (by omega)]; exact z25, ?_⟩
      have h9 := rs_bnd (V := fun x => nl_is M25 (c + 14) x ∧ x.length ≤ 3) (W := fun x => nl_is M25 (c + 22) x ∧ x.length ≤ 3) (m := M25 (c + 14) 1) (n := M25 (c + 22) 1) (h14.imp (fun x hx => ⟨nl_is_cg (by have := hx.1; omega) (fun q a1 a2 => f25 q (by omega) (by omega) (by omega)) hx, by have := hx.1; omega⟩)) (h25.imp (fun x hx => ⟨hx, by have := hx.1; omega⟩)) (fun x hx => hx.1.1.symm) (fun x hx => hx.1.1.symm) rfl
      rw [e3] at h9
      have h9 := rs_in (hd.mono (by decide)) h9
      rw [e53]
      exact h9.imp (fun z hz => ⟨nl_is_cg hz.1.2 (fun q a1 a2 => f9 q (by omega) (by omega)) hz.1.1, nl_is_cg hz.2.2 (fun q a1 a2 => f9 q (by omega) (by omega)) hz.2.1⟩)
    · skip
      refine xv_aload_n hX 1 dc_CT_readBounds_48 rfl (rfl : _ = 49) ?_
      refine xv_callv hX (As := []) (rest := []) (ct_RD_refuse _ Y M25 i25) ml_CT_146 li_RD_refuse rfl (by decide) rfl rfl rfl (by decide) ⟨by decide, by decide⟩ ⟨Nat.le_refl _, Nat.le_refl _⟩ (Nat.le_of_ble_eq_true rfl) dc_CT_readBounds_49 (rfl : _ = 52) (fun M49 p49 => ?_)
      obtain ⟨i49, f49, e49⟩ := p49
      refine xv_aload_n hX 1 dc_CT_readBounds_52 rfl (rfl : _ = 53) ?_
      refine xv_callv hX (As := []) (rest := []) (ct_RD_close _ Y M49 i49) ml_CT_125 li_RD_close rfl (by decide) rfl rfl rfl (by decide) ⟨by decide, by decide⟩ ⟨Nat.le_refl _, Nat.le_refl _⟩ (Nat.le_of_ble_eq_true rfl) dc_CT_readBounds_53 (rfl : _ = 56) (fun M53 p53 => ?_)
      obtain ⟨i53, f53, e53⟩ := p53
      have f9 : rd_F M25 M53 := f49.tr f53
      have hs9 : rd_of M49 = if M25 (c + 14) 1 = 0 ∧ M25 (c + 22) 1 = 0 then none else rd_of M25 := by rw [if_pos (by omega)]; exact e49
      rw [hs9] at e53
      refine xv_retv hX hR dc_CT_readBounds_56 ?_
      refine ⟨i53, fun q a1 a2 a3 => by rw [f9 q a1 a2, f25 q a1 a2 (by omega), f14 q a1 a2 (by omega), f3 q a1 a2], by rw [f9 _ (by omega) (by omega)]; exact z14b, by rw [f9 _ (by omega) (by omega)]; exact z25, ?_⟩
      have h9 := rs_bnd (V := fun x => nl_is M25 (c + 14) x ∧ x.length ≤ 3) (W := fun x => nl_is M25 (c + 22) x ∧ x.length ≤ 3) (m := M25 (c + 14) 1) (n := M25 (c + 22) 1) (h14.imp (fun x hx => ⟨nl_is_cg (by have := hx.1; omega) (fun q a1 a2 => f25 q (by omega) (by omega) (by omega)) hx, by have := hx.1; omega⟩)) (h25.imp (fun x hx => ⟨hx, by have := hx.1; omega⟩)) (fun x hx => hx.1.1.symm) (fun x hx => hx.1.1.symm) rfl
      rw [e3] at h9
      have h9 := rs_in (hd.mono (by decide)) h9
      rw [e53]
      exact h9.imp (fun z hz => ⟨nl_is_cg hz.1.2 (fun q a1 a2 => f9 q (by omega) (by omega)) hz.1.1, nl_is_cg hz.2.2 (fun q a1 a2 => f9 q (by omega) (by omega)) hz.2.1⟩)
end
section
/-! Certificate: an extension -/
set_option maxRecDepth 100000 in
set_option maxHeartbeats 4000000 in
theorem ct_CT_readExtension (l : Launch) (Y : xw_Y) (M : xm_M) (c k : Nat) (E : ps_E) (hc : xk_ct c) (hk : k < 4) (hI : rd_I M) (hd : rd_D 6 (rd_of M)) (h10 : M c 10 = k) (hnum : ∀ j, j < k → M (c + 6 + 2 * j) 0 < 256) (hl5 : M (c + 14) 1 ≤ 3) (hl6 : M (c + 22) 1 ≤ 3) (hE : rd_of M ≠ none → ct_E M c E ∧ E.1.length = k) : xc_v l qm_CT_readExtension 4 Y [.ref (Y.2.2.2 c), .ref (Y.2.2.2 1), .ref (Y.2.2.2 (c + 6 + 2 * k))] M (fun M1 => rd_I M1 ∧ ct_F c M M1 ∧ M1 c 10 = k ∧ (∀ j, j < k + 1 → M1 (c + 6 + 2 * j) 0 < 256) ∧ ct_S c M M1 ∧ (M1 (c + 14) 1 ≤ 3 ∧ M1 (c + 22) 1 ≤ 3) ∧ rs_ok (rd_run (ps_ext (M 3) E) (rd_of M)) (rd_of M1) (fun E' => ct_E M1 c E' ∧ E'.1.length = k + 1)) := by
  refine xc_v.mk rfl (by decide) (Nat.le_of_ble_eq_true rfl) ?_
  intro X hXl hX hR
  subst hXl
  have hX : xv_ok X Y prog_3_method_13_code "CertificatePath$Certificate" 4 (xc_rm 4) := hX
  show xv_V X Y 4 0 0 xw_lk xw_N M 0 [(0, .ref (Y.2.2.2 c)), (1, .ref (Y.2.2.2 1)), (2, .ref (Y.2.2.2 (c + 6 + 2 * k)))] []
  have hc6 : 6 ≤ c := hc.2.2.2.2.2.2.1
  have hc29 : c + 29 < 276 := hc.2.2.2.2.2.2.2
  have hxp : xk_ex (c + 6 + 2 * k) := (hc.2.2.2.1.2.2 k hk).2
  refine xv_aload_n hX 1 dc_CT_readExtension_0 rfl (rfl : _ = 1) ?_
  refine xv_bipush hX (v := nI 48) dc_CT_readExtension_1 (by decide) (rfl : _ = 3) ?_
  refine xv_callv hX (As := [.int (nI 48)]) (rest := []) (ct_RD_open _ Y M 48 hI (by decide)) ml_CT_102 li_RD_open rfl (by decide) rfl rfl rfl (by decide) ⟨by decide, by decide⟩ ⟨Nat.le_refl _, Nat.le_refl _⟩ (Nat.le_of_ble_eq_true rfl) dc_CT_readExtension_3 (rfl : _ = 6) (fun M3 p3 => ?_)
  obtain ⟨i3, f3, e3⟩ := p3
  have b3 : M3 3 = M 3 := f3 3 (by decide) (by decide)
  have hd3 : rd_D 5 (rd_open (M 3) 48 (rd_of M)) := rd_D.opn hd
  refine xv_aload_n hX 1 dc_CT_readExtension_6 rfl (rfl : _ = 7) ?_
  refine xv_iconst hX (v := nI 0) dc_CT_readExtension_7 (by decide) (rfl : _ = 8) ?_
  refine xv_sipush hX (v := nI 255) dc_CT_readExtension_8 (by decide) (rfl : _ = 11) ?_
  refine xv_calli hX (As := [.int (nI 0), .int (nI 255)]) (rest := []) (ct_RD_readInteger _ Y M3 0 255 i3 (by decide) (by decide)) ml_CT_133 li_RD_readInteger rfl (by decide) rfl rfl rfl (by decide) ⟨by decide, by decide⟩ ⟨Nat.le_refl _, Nat.le_refl _⟩ (Nat.le_of_ble_eq_true rfl) dc_CT_readExtension_11 (rfl : _ = 14) (fun r11 M11 p11 => ?_)
  obtain ⟨⟨i11, f11, e11⟩, w, z11, hw1, hw2, hw3⟩ := p11
  rw [z11]
  rw [b3, e3] at e11 hw3
  have h11 := rs_int (hd3.mono (by decide)) e11 hw3
  have f311 : rd_F M M11 := f3.tr f11
  have g10 : M11 c 10 = k := by rw [f311 c (by omega) (by omega)]; exact h10
  refine xv_istore_n hX [1, 2, 3, 0] dc_CT_readExtension_14 (by decide) (L' := [(0, .ref (Y.2.2.2 c)), (1, .ref (Y.2.2.2 1)), (2, .ref (Y.2.2.2 (c + 6 + 2 * k))), (3, .int (nI w))]) rfl (rfl : _ = 15) ?_
  refine xv_aload_n hX 0 dc_CT_readExtension_15 rfl (rfl : _ = 16) ?_
  refine xv_iload_n hX 3 dc_CT_readExtension_16 rfl (rfl : _ = 17) ?_
  refine xv_calli hX (As := [.int (nI w)]) (rest := []) (ct_CT_hasExtension _ Y M11 c w hc (by omega) (by omega) (fun j hj => by rw [f311 _ (by omega) (by omega)]; exact hnum j (by omega))) ml_CT_143 li_CT_hasExtension hc.1 (xk_N (by omega)) rfl rfl rfl (by decide) ⟨by decide, by decide⟩ ⟨Nat.le_refl _, Nat.le_refl _⟩ (Nat.le_of_ble_eq_true rfl) dc_CT_readExtension_17 (rfl : _ = 20) (fun r17 M17 p17 => ?_)
  obtain ⟨pM, t, pr, pt, pi⟩ := p17
  rw [pM, pr]
  rw [g10] at pi
  refine xv_if_eq hX (nI_toInt (by omega)) (tgt := 27) (pq := 23) dc_CT_readExtension_20 (by decide) rfl (fun c20 => ?_) (fun c20 => ?_)
  · skip
    have fx : rd_F M M11 := (f3.tr f11)
    have hs3 : rd_of M11 = if E.1.any (fun x => x.1 == w) = true then none else rd_of M11 := by
      by_cases h0 : rd_of M11 = none
      · rw [h0]; split <;> rfl
      · obtain ⟨q1, q2⟩ := hE (rd_open_sound (rs_sound h11 h0))
        rw [if_neg]
        intro z
        obtain ⟨j, hj, hz⟩ := (ct_any q1.1 q2).mp z
        exact absurd (pi.mpr ⟨j, by omega, by rw [f311 _ (by omega) (by omega)]; exact hz⟩) (by omega)
    have hcN : ∀ q, q < 6 → (xm_set M11 (c + 6 + 2 * k) 0 w) q = M11 q := fun q hq => xm_oth (by omega)
    have iN : rd_I (xm_set M11 (c + 6 + 2 * k) 0 w) := i11.cg hcN
    have oN : rd_of (xm_set M11 (c + 6 + 2 * k) 0 w) = rd_of M11 := rd_of_cg hcN
    have bN : (xm_set M11 (c + 6 + 2 * k) 0 w) 3 = M 3 := by rw [hcN 3 (by decide), fx 3 (by decide) (by decide)]
    have hd3x : rd_D 5 (rd_of M11) := by rw [hs3]; split; exact rd_D.none 5; exact rs_D h11 hd3
    refine xv_aload_n hX 2 dc_CT_readExtension_27 rfl (rfl : _ = 28) ?_
    refine xv_iload_n hX 3 dc_CT_readExtension_28 rfl (rfl : _ = 29) ?_
    refine xv_puti hX fl_CT_149 rfl (hc.2.2.2.1.2.2 _ (by omega)).2.1 (xk_N (by omega)) dc_CT_readExtension_29 (rfl : _ = 32) ?_
    refine xv_aload_n hX 2 dc_CT_readExtension_32 rfl (rfl : _ = 33) ?_
    refine xv_aload_n hX 1 dc_CT_readExtension_33 rfl (rfl : _ = 34) ?_
    refine xv_calli hX (As := []) (rest := [.ref (Y.2.2.2 (c + 6 + 2 * k))]) (ct_RD_readTrueIfThere _ Y (xm_set M11 (c + 6 + 2 * k) 0 w) iN) ml_CT_152 li_RD_readTrueIfThere rfl (by decide) rfl rfl rfl (by decide) ⟨by decide, by decide⟩ ⟨Nat.le_refl _, Nat.le_refl _⟩ (Nat.le_of_ble_eq_true rfl) dc_CT_readExtension_34 (rfl : _ = 37) (fun r34 M34 p34 => ?_)
    obtain ⟨⟨i34, f34, e34⟩, z34⟩ := p34
    rw [oN, bN] at e34 z34
    have h34 := rs_tru (hd3x.mono (by decide)) (fun i h => rd_of_nil h) e34
    rw [z34]
    have hif : (if (rd_is (M 3) 1 (rd_of M11)) = true then 1 else 0) < 2 := by split <;> decide
    have hcC : ∀ q, q < 6 → (xm_set M34 (c + 6 + 2 * k) 1 (if (rd_is (M 3) 1 (rd_of M11)) = true then 1 else 0)) q = M34 q := fun q hq => xm_oth (by omega)
    have iC : rd_I (xm_set M34 (c + 6 + 2 * k) 1 (if (rd_is (M 3) 1 (rd_of M11)) = true then 1 else 0)) := i34.cg hcC
    have oC : rd_of (xm_set M34 (c + 6 + 2 * k) 1 (if (rd_is (M 3) 1 (rd_of M11)) = true then 1 else 0)) = rd_of M34 := rd_of_cg hcC
    have bC : (xm_set M34 (c + 6 + 2 * k) 1 (if (rd_is (M 3) 1 (rd_of M11)) = true then 1 else 0)) 3 = M 3 := by rw [hcC 3 (by decide), f34 3 (by decide) (by decide), bN]
    have hd34 : rd_D 5 (rd_of M34) := rs_D h34 hd3x
    refine xv_putz hX fl_CT_84 rfl (hc.2.2.2.1.2.2 _ (by omega)).2.1 (xk_N (by omega)) (by omega) dc_CT_readExtension_37 (rfl : _ = 40) ?_
    refine xv_aload_n hX 1 dc_CT_readExtension_40 rfl (rfl : _ = 41) ?_
    refine xv_iconst hX (v := nI 4) dc_CT_readExtension_41 (by decide) (rfl : _ = 42) ?_
    refine xv_callv hX (As := [.int (nI 4)]) (rest := []) (ct_RD_open _ Y (xm_set M34 (c + 6 + 2 * k) 1 (if (rd_is (M 3) 1 (rd_of M11)) = true then 1 else 0)) 4 iC (by decide)) ml_CT_102 li_RD_open rfl (by decide) rfl rfl rfl (by decide) ⟨by decide, by decide⟩ ⟨Nat.le_refl _, Nat.le_refl _⟩ (Nat.le_of_ble_eq_true rfl) dc_CT_readExtension_42 (rfl : _ = 45) (fun M42 p42 => ?_)
    obtain ⟨i42, f42, e42⟩ := p42
    rw [oC, bC] at e42
    have b42 : M42 3 = M 3 := by rw [f42 3 (by decide) (by decide), bC]
    have hd42 : rd_D 4 (rd_of M42) := by rw [e42]; exact rd_D.opn hd34
    have g42 : ∀ q, q ≠ 1 → q ≠ 4 → q ≠ (c + 6 + 2 * k) → M42 q = M q := fun q a1 a2 a3 => by rw [f42 q a1 a2, xm_oth a3, f34 q a1 a2, xm_oth a3, fx q a1 a2]
    have gX0 : M42 (c + 6 + 2 * k) 0 = w := by rw [f42 _ (by omega) (by omega), xm_nk (by decide), f34 _ (by omega) (by omega), xm_eq]
    have gX1 : M42 (c + 6 + 2 * k) 1 = if (rd_is (M 3) 1 (rd_of M11)) = true then 1 else 0 := by rw [f42 _ (by omega) (by omega), xm_eq]
    refine xv_iload_n hX 3 dc_CT_readExtension_45 rfl (rfl : _ = 46) ?_
    by_cases sw46_1 : w = 1
    · skip
      refine xv_tsIn hX (nI_toInt (by omega)) (tgt := 72) dc_CT_readExtension_46 (by omega) (by omega) (by rw [sw46_1]; rfl) (by decide) ?_
      refine xv_aload_n hX 0 dc_CT_readExtension_72 rfl (rfl : _ = 73) ?_
      refine xv_aload_n hX 1 dc_CT_readExtension_73 rfl (rfl : _ = 74) ?_
      refine xv_callv hX (As := [.ref (Y.2.2.2 1)]) (rest := []) (ct_CT_readBasic _ Y M42 c hc i42 (hd42.mono (by decide))) ml_CT_155 li_CT_readBasic hc.1 (xk_N (by omega)) rfl rfl rfl (by decide) ⟨by decide, by decide⟩ ⟨Nat.le_refl _, Nat.le_refl _⟩ (Nat.le_of_ble_eq_true rfl) dc_CT_readExtension_74 (rfl : _ = 77) (fun M9 p74 => ?_)
      obtain ⟨i9, fS, fc, h9⟩ := p74
      rw [b42] at h9
      rw [e42] at h9
      refine xv_goto hX (pq := 101) dc_CT_readExtension_77 (by decide) ?_
      refine xv_aload_n hX 1 dc_CT_readExtension_101 rfl (rfl : _ = 102) ?_
      refine xv_callv hX (As := []) (rest := []) (ct_RD_close _ Y M9 i9) ml_CT_125 li_RD_close rfl (by decide) rfl rfl rfl (by decide) ⟨by decide, by decide⟩ ⟨Nat.le_refl _, Nat.le_refl _⟩ (Nat.le_of_ble_eq_true rfl) dc_CT_readExtension_102 (rfl : _ = 105) (fun M101 p102 => ?_)
      obtain ⟨i101, f101, e101⟩ := p102
      refine xv_aload_n hX 1 dc_CT_readExtension_105 rfl (rfl : _ = 106) ?_
      refine xv_callv hX (As := []) (rest := []) (ct_RD_close _ Y M101 i101) ml_CT_125 li_RD_close rfl (by decide) rfl rfl rfl (by decide) ⟨by decide, by decide⟩ ⟨Nat.le_refl _, Nat.le_refl _⟩ (Nat.le_of_ble_eq_true rfl) dc_CT_readExtension_106 (rfl : _ = 109) (fun M105 p106 => ?_)
      obtain ⟨i105, f105, e105⟩ := p106
      refine xv_retv hX hR dc_CT_readExtension_109 ?_
      have g9 : rd_F M9 M105 := f101.tr f105
      have hq : ∀ q, q ≠ 1 → q ≠ 4 → q ≠ c → q ≠ (c + 6 + 2 * k) → M105 q = M q := fun q a1 a2 a3 a4 => by rw [g9 q a1 a2, fS q a1 a2 a3, g42 q a1 a2 a4]
      have hcj : ∀ j, j ≠ 11 → j ≠ 12 → M105 c j = M c j := fun j a1 a2 => by rw [g9 c (by omega) (by omega), fc j a1 a2, g42 c (by omega) (by omega) (by omega)]
      have hX : ∀ j, M105 (c + 6 + 2 * k) j = M42 (c + 6 + 2 * k) j := fun j => by rw [g9 _ (by omega) (by omega), fS _ (by omega) (by omega) (by omega)]
      have hX0 : M105 (c + 6 + 2 * k) 0 = w := by rw [hX, gX0]
      have hX1 : M105 (c + 6 + 2 * k) 1 = if (rd_is (M 3) 1 (rd_of M11)) = true then 1 else 0 := by rw [hX, gX1]
      have h6 := rs_con1 (c := (rd_is (M 3) 1 (rd_of M11))) (E := E) h9
      have hw9 : w = 1 := sw46_1
      subst hw9
      have h7 := rs_ext (hd.mono (by decide)) h11 hs3 h34 h6
      rw [← e101, ← e105] at h7
      refine ⟨i105, fun q a1 a2 a3 => hq q a1 a2 (by omega) (by omega), (hcj 10 (by omega) (by omega)).trans h10, fun j hj => ?_, ⟨fun j a1 a2 a3 a4 => hcj j a2 a3, fun q a1 a2 => hq q (by omega) (by omega) (by omega) (by omega)⟩, ⟨by rw [hq _ (by omega) (by omega) (by omega) (by omega)]; exact hl5, by rw [hq _ (by omega) (by omega) (by omega) (by omega)]; exact hl6⟩, ?_⟩
      · by_cases hjk : j = k
        · rw [hjk, hX0]; omega
        · rw [hq _ (by omega) (by omega) (by omega) (by omega)]; exact hnum j (by omega)
      · rcases h7 with h7 | ⟨E', t, hE1, hE2, hE3⟩
        · exact Or.inl h7
        · refine Or.inr ⟨E', t, hE1, hE2, ?_⟩
          have hsnd : rd_of M ≠ none := fun e => by rw [e] at hE1; cases hE1
          obtain ⟨⟨q1, q2, q3, q4, q5, q6⟩, ql⟩ := hE hsnd
          obtain ⟨z, ⟨hz1, hz2⟩, rfl⟩ := hE3
          refine ⟨⟨ct_app q1 ql (fun j hj => ⟨hq _ (by omega) (by omega) (by omega) (by omega), hq _ (by omega) (by omega) (by omega) (by omega)⟩) ⟨hX0, hX1, ?_⟩, ?_, ?_, ?_, ?_, ?_⟩, by simp [ql]⟩
          · intro h; exact absurd (Or.inl rfl) h
          · rw [g9 c (by omega) (by omega)]; exact hz1
          · rw [g9 c (by omega) (by omega), hz2, g42 c (by omega) (by omega) (by omega)]
            obtain ⟨z1, z2⟩ := z
            cases z2 with
            | none => exact q3
            | some v => rfl
          · rw [hcj 13 (by omega) (by omega)]; exact q4
          · exact nl_is_cg2 hl5 (fun q a1 a2 => hq q (by omega) (by omega) (by omega) (by omega)) q5
          · exact nl_is_cg2 hl6 (fun q a1 a2 => hq q (by omega) (by omega) (by omega) (by omega)) q6
    by_cases sw46_2 : w = 2
    · skip
      refine xv_tsIn hX (nI_toInt (by omega)) (tgt := 80) dc_CT_readExtension_46 (by omega) (by omega) (by rw [sw46_2]; rfl) (by decide) ?_
      refine xv_aload_n hX 0 dc_CT_readExtension_80 rfl (rfl : _ = 81) ?_
      refine xv_aload_n hX 1 dc_CT_readExtension_81 rfl (rfl : _ = 82) ?_
      refine xv_callv hX (As := [.ref (Y.2.2.2 1)]) (rest := []) (ct_CT_readUsage _ Y M42 c hc i42 (hd42.mono (by decide))) ml_CT_158 li_CT_readUsage hc.1 (xk_N (by omega)) rfl rfl rfl (by decide) ⟨by decide, by decide⟩ ⟨Nat.le_refl _, Nat.le_refl _⟩ (Nat.le_of_ble_eq_true rfl) dc_CT_readExtension_82 (rfl : _ = 85) (fun M9 p82 => ?_)
      obtain ⟨i9, fS, fc, h9⟩ := p82
      rw [b42] at h9
      rw [e42] at h9
      refine xv_goto hX (pq := 101) dc_CT_readExtension_85 (by decide) ?_
      refine xv_aload_n hX 1 dc_CT_readExtension_101 rfl (rfl : _ = 102) ?_
      refine xv_callv hX (As := []) (rest := []) (ct_RD_close _ Y M9 i9) ml_CT_125 li_RD_close rfl (by decide) rfl rfl rfl (by decide) ⟨by decide, by decide⟩ ⟨Nat.le_refl _, Nat.le_refl _⟩ (Nat.le_of_ble_eq_true rfl) dc_CT_readExtension_102 (rfl : _ = 105) (fun M101 p102 => ?_)
      obtain ⟨i101, f101, e101⟩ := p102
      refine xv_aload_n hX 1 dc_CT_readExtension_105 rfl (rfl : _ = 106) ?_
      refine xv_callv hX (As := []) (rest := []) (ct_RD_close _ Y M101 i101) ml_CT_125 li_RD_close rfl (by decide) rfl rfl rfl (by decide) ⟨by decide, by decide⟩ ⟨Nat.le_refl _, Nat.le_refl _⟩ (Nat.le_of_ble_eq_true rfl) dc_CT_readExtension_106 (rfl : _ = 109) (fun M105 p106 => ?_)
      obtain ⟨i105, f105, e105⟩ := p106
      refine xv_retv hX hR dc_CT_readExtension_109 ?_
      have g9 : rd_F M9 M105 := f101.tr f105
      have hq : ∀ q, q ≠ 1 → q ≠ 4 → q ≠ c → q ≠ (c + 6 + 2 * k) → M105 q = M q := fun q a1 a2 a3 a4 => by rw [g9 q a1 a2, fS q a1 a2 a3, g42 q a1 a2 a4]
      have hcj : ∀ j, j ≠ 13 → M105 c j = M c j := fun j a1 => by rw [g9 c (by omega) (by omega), fc j a1, g42 c (by omega) (by omega) (by omega)]
      have hX : ∀ j, M105 (c + 6 + 2 * k) j = M42 (c + 6 + 2 * k) j := fun j => by rw [g9 _ (by omega) (by omega), fS _ (by omega) (by omega) (by omega)]
      have hX0 : M105 (c + 6 + 2 * k) 0 = w := by rw [hX, gX0]
      have hX1 : M105 (c + 6 + 2 * k) 1 = if (rd_is (M 3) 1 (rd_of M11)) = true then 1 else 0 := by rw [hX, gX1]
      have h6 := rs_con2 (c := (rd_is (M 3) 1 (rd_of M11))) (E := E) h9
      have hw9 : w = 2 := sw46_2
      subst hw9
      have h7 := rs_ext (hd.mono (by decide)) h11 hs3 h34 h6
      rw [← e101, ← e105] at h7
      refine ⟨i105, fun q a1 a2 a3 => hq q a1 a2 (by omega) (by omega), (hcj 10 (by omega)).trans h10, fun j hj => ?_, ⟨fun j a1 a2 a3 a4 => hcj j a4, fun q a1 a2 => hq q (by omega) (by omega) (by omega) (by omega)⟩, ⟨by rw [hq _ (by omega) (by omega) (by omega) (by omega)]; exact hl5, by rw [hq _ (by omega) (by omega) (by omega) (by omega)]; exact hl6⟩, ?_⟩
      · by_cases hjk : j = k
        · rw [hjk, hX0]; omega
        · rw [hq _ (by omega) (by omega) (by omega) (by omega)]; exact hnum j (by omega)
      · rcases h7 with h7 | ⟨E', t, hE1, hE2, hE3⟩
        · exact Or.inl h7
        · refine Or.inr ⟨E', t, hE1, hE2, ?_⟩
          have hsnd : rd_of M ≠ none := fun e => by rw [e] at hE1; cases hE1
          obtain ⟨⟨q1, q2, q3, q4, q5, q6⟩, ql⟩ := hE hsnd
          obtain ⟨z, hz1, rfl⟩ := hE3
          refine ⟨⟨ct_app q1 ql (fun j hj => ⟨hq _ (by omega) (by omega) (by omega) (by omega), hq _ (by omega) (by omega) (by omega) (by omega)⟩) ⟨hX0, hX1, ?_⟩, ?_, ?_, ?_, ?_, ?_⟩, by simp [ql]⟩
          · intro h; exact absurd (Or.inr (Or.inl rfl)) h
          · rw [hcj 11 (by omega)]; exact q2
          · rw [hcj 12 (by omega)]; exact q3
          · rw [g9 c (by omega) (by omega)]; exact hz1
          · exact nl_is_cg2 hl5 (fun q a1 a2 => hq q (by omega) (by omega) (by omega) (by omega)) q5
          · exact nl_is_cg2 hl6 (fun q a1 a2 => hq q (by omega) (by omega) (by omega) (by omega)) q6
    by_cases sw46_3 : w = 3
    · skip
      refine xv_tsIn hX (nI_toInt (by omega)) (tgt := 88) dc_CT_readExtension_46 (by omega) (by omega) (by rw [sw46_3]; rfl) (by decide) ?_
      refine xv_aload_n hX 0 dc_CT_readExtension_88 rfl (rfl : _ = 89) ?_
      refine xv_aload_n hX 1 dc_CT_readExtension_89 rfl (rfl : _ = 90) ?_
      refine xv_callv hX (As := [.ref (Y.2.2.2 1)]) (rest := []) (ct_CT_readBounds _ Y M42 c hc i42 hd42) ml_CT_161 li_CT_readBounds hc.1 (xk_N (by omega)) rfl rfl rfl (by decide) ⟨by decide, by decide⟩ ⟨Nat.le_refl _, Nat.le_refl _⟩ (Nat.le_of_ble_eq_true rfl) dc_CT_readExtension_90 (rfl : _ = 93) (fun M9 p90 => ?_)
      obtain ⟨i9, fS, z5, z6, h9⟩ := p90
      rw [b42] at h9
      rw [e42] at h9
      refine xv_goto hX (pq := 101) dc_CT_readExtension_93 (by decide) ?_
      refine xv_aload_n hX 1 dc_CT_readExtension_101 rfl (rfl : _ = 102) ?_
      refine xv_callv hX (As := []) (rest := []) (ct_RD_close _ Y M9 i9) ml_CT_125 li_RD_close rfl (by decide) rfl rfl rfl (by decide) ⟨by decide, by decide⟩ ⟨Nat.le_refl _, Nat.le_refl _⟩ (Nat.le_of_ble_eq_true rfl) dc_CT_readExtension_102 (rfl : _ = 105) (fun M101 p102 => ?_)
      obtain ⟨i101, f101, e101⟩ := p102
      refine xv_aload_n hX 1 dc_CT_readExtension_105 rfl (rfl : _ = 106) ?_
      refine xv_callv hX (As := []) (rest := []) (ct_RD_close _ Y M101 i101) ml_CT_125 li_RD_close rfl (by decide) rfl rfl rfl (by decide) ⟨by decide, by decide⟩ ⟨Nat.le_refl _, Nat.le_refl _⟩ (Nat.le_of_ble_eq_true rfl) dc_CT_readExtension_106 (rfl : _ = 109) (fun M105 p106 => ?_)
      obtain ⟨i105, f105, e105⟩ := p106
      refine xv_retv hX hR dc_CT_readExtension_109 ?_
      have g9 : rd_F M9 M105 := f101.tr f105
      have hq : ∀ q, q ≠ 1 → q ≠ 4 → (q < c + 14 ∨ c + 30 ≤ q) → q ≠ (c + 6 + 2 * k) → M105 q = M q := fun q a1 a2 a3 a4 => by rw [g9 q a1 a2, fS q a1 a2 a3, g42 q a1 a2 a4]
      have hcj : ∀ j, M105 c j = M c j := fun j => by rw [hq c (by omega) (by omega) (by omega) (by omega)]
      have hX : ∀ j, M105 (c + 6 + 2 * k) j = M42 (c + 6 + 2 * k) j := fun j => by rw [g9 _ (by omega) (by omega), fS _ (by omega) (by omega) (by omega)]
      have hX0 : M105 (c + 6 + 2 * k) 0 = w := by rw [hX, gX0]
      have hX1 : M105 (c + 6 + 2 * k) 1 = if (rd_is (M 3) 1 (rd_of M11)) = true then 1 else 0 := by rw [hX, gX1]
      have h6 := rs_con3 (c := (rd_is (M 3) 1 (rd_of M11))) (E := E) h9
      have hw9 : w = 3 := sw46_3
      subst hw9
      have h7 := rs_ext (hd.mono (by decide)) h11 hs3 h34 h6
      rw [← e101, ← e105] at h7
      refine ⟨i105, fun q a1 a2 a3 => hq q a1 a2 (by omega) (by omega), (hcj 10 ).trans h10, fun j hj => ?_, ⟨fun j a1 a2 a3 a4 => hcj j , fun q a1 a2 => hq q (by omega) (by omega) (by omega) (by omega)⟩, ⟨by rw [g9 _ (by omega) (by omega)]; exact z5, by rw [g9 _ (by omega) (by omega)]; exact z6⟩, ?_⟩
      · by_cases hjk : j = k
        · rw [hjk, hX0]; omega
        · rw [hq _ (by omega) (by omega) (by omega) (by omega)]; exact hnum j (by omega)
      · rcases h7 with h7 | ⟨E', t, hE1, hE2, hE3⟩
        · exact Or.inl h7
        · refine Or.inr ⟨E', t, hE1, hE2, ?_⟩
          have hsnd : rd_of M ≠ none := fun e => by rw [e] at hE1; cases hE1
          obtain ⟨⟨q1, q2, q3, q4, q5, q6⟩, ql⟩ := hE hsnd
          obtain ⟨z, ⟨hz1, hz2⟩, rfl⟩ := hE3
          refine ⟨⟨ct_app q1 ql (fun j hj => ⟨hq _ (by omega) (by omega) (by omega) (by omega), hq _ (by omega) (by omega) (by omega) (by omega)⟩) ⟨hX0, hX1, ?_⟩, ?_, ?_, ?_, ?_, ?_⟩, by simp [ql]⟩
          · intro h; exact absurd (Or.inr (Or.inr rfl)) h
          · rw [hcj 11]; exact q2
          · rw [hcj 12]; exact q3
          · rw [hcj 13]; exact q4
          · exact nl_is_cg2 z5 (fun q a1 a2 => g9 q (by omega) (by omega)) hz1
          · exact nl_is_cg2 z6 (fun q a1 a2 => g9 q (by omega) (by omega)) hz2
    refine xv_tsOut hX (nI_toInt (by omega)) (tgt := 96) dc_CT_readExtension_46 (by omega) (by decide) ?_
    refine xv_aload_n hX 2 dc_CT_readExtension_96 rfl (rfl : _ = 97) ?_
    refine xv_aload_n hX 1 dc_CT_readExtension_97 rfl (rfl : _ = 98) ?_
    refine xv_callv hX (As := [.ref (Y.2.2.2 1)]) (rest := []) (ct_EX_readOctets _ Y M42 (c + 6 + 2 * k) hxp i42) ml_CT_164 li_EX_readOctets (hc.2.2.2.1.2.2 _ (by omega)).2.1 (xk_N (by omega)) rfl rfl rfl (by decide) ⟨by decide, by decide⟩ ⟨Nat.le_refl _, Nat.le_refl _⟩ (Nat.le_of_ble_eq_true rfl) dc_CT_readExtension_98 (rfl : _ = 101) (fun M9 p98 => ?_)
    obtain ⟨i9, ⟨fS, fx0, fx1⟩, h9, ho9⟩ := p98
    rw [b42] at ho9
    rw [e42] at h9
    refine xv_aload_n hX 1 dc_CT_readExtension_101 rfl (rfl : _ = 102) ?_
    refine xv_callv hX (As := []) (rest := []) (ct_RD_close _ Y M9 i9) ml_CT_125 li_RD_close rfl (by decide) rfl rfl rfl (by decide) ⟨by decide, by decide⟩ ⟨Nat.le_refl _, Nat.le_refl _⟩ (Nat.le_of_ble_eq_true rfl) dc_CT_readExtension_102 (rfl : _ = 105) (fun M101 p102 => ?_)
    obtain ⟨i101, f101, e101⟩ := p102
    refine xv_aload_n hX 1 dc_CT_readExtension_105 rfl (rfl : _ = 106) ?_
    refine xv_callv hX (As := []) (rest := []) (ct_RD_close _ Y M101 i101) ml_CT_125 li_RD_close rfl (by decide) rfl rfl rfl (by decide) ⟨by decide, by decide⟩ ⟨Nat.le_refl _, Nat.le_refl _⟩ (Nat.le_of_ble_eq_true rfl) dc_CT_readExtension_106 (rfl : _ = 109) (fun M105 p106 => ?_)
    obtain ⟨i105, f105, e105⟩ := p106
    refine xv_retv hX hR dc_CT_readExtension_109 ?_
    have g9 : rd_F M9 M105 := f101.tr f105
    have hq : ∀ q, q ≠ 1 → q ≠ 4 → q ≠ (c + 6 + 2 * k) → q ≠ (c + 6 + 2 * k) + 1 → M105 q = M q := fun q a1 a2 a3 a4 => by rw [g9 q a1 a2, fS q a1 a2 a3 a4, g42 q a1 a2 a3]
    have hcj : ∀ j, M105 c j = M c j := fun j => by rw [hq c (by omega) (by omega) (by omega) (by omega)]
    have hX0 : M105 (c + 6 + 2 * k) 0 = w := by rw [g9 _ (by omega) (by omega), fx0, gX0]
    have hX1 : M105 (c + 6 + 2 * k) 1 = if (rd_is (M 3) 1 (rd_of M11)) = true then 1 else 0 := by rw [g9 _ (by omega) (by omega), fx1, gX1]
    have h6 := rs_con4 (b := M 3) (c := (rd_is (M 3) 1 (rd_of M11))) (E := E) (num := w) (by omega) h9
    have h7 := rs_ext (hd.mono (by decide)) h11 hs3 h34 h6
    rw [← e101, ← e105] at h7
    refine ⟨i105, fun q a1 a2 a3 => hq q a1 a2 (by omega) (by omega), (hcj 10 ).trans h10, fun j hj => ?_, ⟨fun j a1 a2 a3 a4 => hcj j , fun q a1 a2 => hq q (by omega) (by omega) (by omega) (by omega)⟩, ⟨by rw [hq _ (by omega) (by omega) (by omega) (by omega)]; exact hl5, by rw [hq _ (by omega) (by omega) (by omega) (by omega)]; exact hl6⟩, ?_⟩
    · by_cases hjk : j = k
      · rw [hjk, hX0]; omega
      · rw [hq _ (by omega) (by omega) (by omega) (by omega)]; exact hnum j (by omega)
    · rcases h7 with h7 | ⟨E', t, hE1, hE2, hE3⟩
      · exact Or.inl h7
      · refine Or.inr ⟨E', t, hE1, hE2, ?_⟩
        have hsnd : rd_of M ≠ none := fun e => by rw [e] at hE1; cases hE1
        obtain ⟨⟨q1, q2, q3, q4, q5, q6⟩, ql⟩ := hE hsnd
        obtain ⟨i, l, ls, hz1, hz2, rfl⟩ := hE3
        refine ⟨⟨ct_app q1 ql (fun j hj => ⟨hq _ (by omega) (by omega) (by omega) (by omega), hq _ (by omega) (by omega) (by omega) (by omega)⟩) ⟨hX0, hX1, ?_⟩, ?_, ?_, ?_, ?_, ?_⟩, by simp [ql]⟩
        · intro _
          obtain ⟨r1, r2⟩ := ho9 i l ls (by rw [e42]; exact hz1) hz2
          rw [g9 _ (by omega) (by omega), g9 _ (by omega) (by omega)]
          refine ⟨by rw [r1]; exact (ps_sl_len _ _ _).symm, fun j hj => ?_⟩
          have hj : j < (ps_sl (M 3) i l).length := hj
          rw [ps_sl_len] at hj
          rw [r2 j hj]
          simp [ps_sl, hj]
        · rw [hcj 11]; exact q2
        · rw [hcj 12]; exact q3
        · rw [hcj 13]; exact q4
        · exact nl_is_cg2 hl5 (fun q a1 a2 => hq q (by omega) (by omega) (by omega) (by omega)) q5
        · exact nl_is_cg2 hl6 (fun q a1 a2 => hq q (by omega) (by omega) (by omega) (by omega)) q6
  · skip
    refine xv_aload_n hX 1 dc_CT_readExtension_23 rfl (rfl : _ = 24) ?_
    refine xv_callv hX (As := []) (rest := []) (ct_RD_refuse _ Y M11 i11) ml_CT_146 li_RD_refuse rfl (by decide) rfl rfl rfl (by decide) ⟨by decide, by decide⟩ ⟨Nat.le_refl _, Nat.le_refl _⟩ (Nat.le_of_ble_eq_true rfl) dc_CT_readExtension_24 (rfl : _ = 27) (fun M24 p24 => ?_)
    obtain ⟨i24, f24, e24⟩ := p24
    have fx : rd_F M M24 := ((f3.tr f11).tr f24)
    have hs3 : rd_of M24 = if E.1.any (fun x => x.1 == w) = true then none else rd_of M11 := by
      rw [e24]
      by_cases h0 : rd_of M11 = none
      · rw [h0]; split <;> rfl
      · obtain ⟨q1, q2⟩ := hE (rd_open_sound (rs_sound h11 h0))
        rw [if_pos]
        obtain ⟨j, hj, hz⟩ := pi.mp (by omega)
        exact (ct_any q1.1 q2).mpr ⟨j, by omega, by rw [← hz, f311 _ (by omega) (by omega)]⟩
    have hcN : ∀ q, q < 6 → (xm_set M24 (c + 6 + 2 * k) 0 w) q = M24 q := fun q hq => xm_oth (by omega)
    have iN : rd_I (xm_set M24 (c + 6 + 2 * k) 0 w) := i24.cg hcN
    have oN : rd_of (xm_set M24 (c + 6 + 2 * k) 0 w) = rd_of M24 := rd_of_cg hcN
    have bN : (xm_set M24 (c + 6 + 2 * k) 0 w) 3 = M 3 := by rw [hcN 3 (by decide), fx 3 (by decide) (by decide)]
    have hd3x : rd_D 5 (rd_of M24) := by rw [hs3]; split; exact rd_D.none 5; exact rs_D h11 hd3
    refine xv_aload_n hX 2 dc_CT_readExtension_27 rfl (rfl : _ = 28) ?_
    refine xv_iload_n hX 3 dc_CT_readExtension_28 rfl (rfl : _ = 29) ?_
    refine xv_puti hX fl_CT_149 rfl (hc.2.2.2.1.2.2 _ (by omega)).2.1 (xk_N (by omega)) dc_CT_readExtension_29 (rfl : _ = 32) ?_
    refine xv_aload_n hX 2 dc_CT_readExtension_32 rfl (rfl : _ = 33) ?_
    refine xv_aload_n hX 1 dc_CT_readExtension_33 rfl (rfl : _ = 34) ?_
    refine xv_calli hX (As := []) (rest := [.ref (Y.2.2.2 (c + 6 + 2 * k))]) (ct_RD_readTrueIfThere _ Y (xm_set M24 (c + 6 + 2 * k) 0 w) iN) ml_CT_152 li_RD_readTrueIfThere rfl (by decide) rfl rfl rfl (by decide) ⟨by decide, by decide⟩ ⟨Nat.le_refl _, Nat.le_refl _⟩ (Nat.le_of_ble_eq_true rfl) dc_CT_readExtension_34 (rfl : _ = 37) (fun r34 M34 p34 => ?_)
    obtain ⟨⟨i34, f34, e34⟩, z34⟩ := p34
    rw [oN, bN] at e34 z34
    have h34 := rs_tru (hd3x.mono (by decide)) (fun i h => rd_of_nil h) e34
    rw [z34]
    have hif : (if (rd_is (M 3) 1 (rd_of M24)) = true then 1 else 0) < 2 := by split <;> decide
    have hcC : ∀ q, q < 6 → (xm_set M34 (c + 6 + 2 * k) 1 (if (rd_is (M 3) 1 (rd_of M24)) = true then 1 else 0)) q = M34 q := fun q hq => xm_oth (by omega)
    have iC : rd_I (xm_set M34 (c + 6 + 2 * k) 1 (if (rd_is (M 3) 1 (rd_of M24)) = true then 1 else 0)) := i34.cg hcC
    have oC : rd_of (xm_set M34 (c + 6 + 2 * k) 1 (if (rd_is (M 3) 1 (rd_of M24)) = true then 1 else 0)) = rd_of M34 := rd_of_cg hcC
    have bC : (xm_set M34 (c + 6 + 2 * k) 1 (if (rd_is (M 3) 1 (rd_of M24)) = true then 1 else 0)) 3 = M 3 := by rw [hcC 3 (by decide), f34 3 (by decide) (by decide), bN]
    have hd34 : rd_D 5 (rd_of M34) := rs_D h34 hd3x
    refine xv_putz hX fl_CT_84 rfl (hc.2.2.2.1.2.2 _ (by omega)).2.1 (xk_N (by omega)) (by omega) dc_CT_readExtension_37 (rfl : _ = 40) ?_
    refine xv_aload_n hX 1 dc_CT_readExtension_40 rfl (rfl : _ = 41) ?_
    refine xv_iconst hX (v := nI 4) dc_CT_readExtension_41 (by decide) (rfl : _ = 42) ?_
    refine xv_callv hX (As := [.int (nI 4)]) (rest := []) (ct_RD_open _ Y (xm_set M34 (c + 6 + 2 * k) 1 (if (rd_is (M 3) 1 (rd_of M24)) = true then 1 else 0)) 4 iC (by decide)) ml_CT_102 li_RD_open rfl (by decide) rfl rfl rfl (by decide) ⟨by decide, by decide⟩ ⟨Nat.le_refl _, Nat.le_refl _⟩ (Nat.le_of_ble_eq_true rfl) dc_CT_readExtension_42 (rfl : _ = 45) (fun M42 p42 => ?_)
    obtain ⟨i42, f42, e42⟩ := p42
    rw [oC, bC] at e42
    have b42 : M42 3 = M 3 := by rw [f42 3 (by decide) (by decide), bC]
    have hd42 : rd_D 4 (rd_of M42) := by rw [e42]; exact rd_D.opn hd34
    have g42 : ∀ q, q ≠ 1 → q ≠ 4 → q ≠ (c + 6 + 2 * k) → M42 q = M q := fun q a1 a2 a3 => by rw [f42 q a1 a2, xm_oth a3, f34 q a1 a2, xm_oth a3, fx q a1 a2]
    have gX0 : M42 (c + 6 + 2 * k) 0 = w := by rw [f42 _ (by omega) (by omega), xm_nk (by decide), f34 _ (by omega) (by omega), xm_eq]
    have gX1 : M42 (c + 6 + 2 * k) 1 = if (rd_is (M 3) 1 (rd_of M24)) = true then 1 else 0 := by rw [f42 _ (by omega) (by omega), xm_eq]
    refine xv_iload_n hX 3 dc_CT_readExtension_45 rfl (rfl : _ = 46) ?_
    by_cases sw46_1 : w = 1
    · skip
      refine xv_tsIn hX (nI_toInt (by omega)) (tgt := 72) dc_CT_readExtension_46 (by omega) (by omega) (by rw [sw46_1]; rfl) (by decide) ?_
      refine xv_aload_n hX 0 dc_CT_readExtension_72 rfl (rfl : _ = 73) ?_
      refine xv_aload_n hX 1 dc_CT_readExtension_73 rfl (rfl : _ = 74) ?_
      refine xv_callv hX (As := [.ref (Y.2.2.2 1)]) (rest := []) (ct_CT_readBasic _ Y M42 c hc i42 (hd42.mono (by decide))) ml_CT_155 li_CT_readBasic hc.1 (xk_N (by omega)) rfl rfl rfl (by decide) ⟨by decide, by decide⟩ ⟨Nat.le_refl _, Nat.le_refl _⟩ (Nat.le_of_ble_eq_true rfl) dc_CT_readExtension_74 (rfl : _ = 77) (fun M9 p74 => ?_)
      obtain ⟨i9, fS, fc, h9⟩ := p74
      rw [b42] at h9
      rw [e42] at h9
      refine xv_goto hX (pq := 101) dc_CT_readExtension_77 (by decide) ?_
      refine xv_aload_n hX 1 dc_CT_readExtension_101 rfl (rfl : _ = 102) ?_
      refine xv_callv hX (As := []) (rest := []) (ct_RD_close _ Y M9 i9) ml_CT_125 li_RD_close rfl (by decide) rfl rfl rfl (by decide) ⟨by decide, by decide⟩ ⟨Nat.le_refl _, Nat.le_refl _⟩ (Nat.le_of_ble_eq_true rfl) dc_CT_readExtension_102 (rfl : _ = 105) (fun M101 p102 => ?_)
      obtain ⟨i101, f101, e101⟩ := p102
      refine xv_aload_n hX 1 dc_CT_readExtension_105 rfl (rfl : _ = 106) ?_
      refine xv_callv hX (As := []) (rest := []) (ct_RD_close _ Y M101 i101) ml_CT_125 li_RD_close rfl (by decide) rfl rfl rfl (by decide) ⟨by decide, by decide⟩ ⟨Nat.le_refl _, Nat.le_refl _⟩ (Nat.le_of_ble_eq_true rfl) dc_CT_readExtension_106 (rfl : _ = 109) (fun M105 p106 => ?_)
      obtain ⟨i105, f105, e105⟩ := p106
      refine xv_retv hX hR dc_CT_readExtension_109 ?_
      have g9 : rd_F M9 M105 := f101.tr f105
      have hq : ∀ q, q ≠ 1 → q ≠ 4 → q ≠ c → q ≠ (c + 6 + 2 * k) → M105 q = M q := fun q a1 a2 a3 a4 => by rw [g9 q a1 a2, fS q a1 a2 a3, g42 q a1 a2 a4]
      have hcj : ∀ j, j ≠ 11 → j ≠ 12 → M105 c j = M c j := fun j a1 a2 => by rw [g9 c (by omega) (by omega), fc j a1 a2, g42 c (by omega) (by omega) (by omega)]
      have hX : ∀ j, M105 (c + 6 + 2 * k) j = M42 (c + 6 + 2 * k) j := fun j => by rw [g9 _ (by omega) (by omega), fS _ (by omega) (by omega) (by omega)]
      have hX0 : M105 (c + 6 + 2 * k) 0 = w := by rw [hX, gX0]
      have hX1 : M105 (c + 6 + 2 * k) 1 = if (rd_is (M 3) 1 (rd_of M24)) = true then 1 else 0 := by rw [hX, gX1]
      have h6 := rs_con1 (c := (rd_is (M 3) 1 (rd_of M24))) (E := E) h9
      have hw9 : w = 1 := sw46_1
      subst hw9
      have h7 := rs_ext (hd.mono (by decide)) h11 hs3 h34 h6
      rw [← e101, ← e105] at h7
      refine ⟨i105, fun q a1 a2 a3 => hq q a1 a2 (by omega) (by omega), (hcj 10 (by omega) (by omega)).trans h10, fun j hj => ?_, ⟨fun j a1 a2 a3 a4 => hcj j a2 a3, fun q a1 a2 => hq q (by omega) (by omega) (by omega) (by omega)⟩, ⟨by rw [hq _ (by omega) (by omega) (by omega) (by omega)]; exact hl5, by rw [hq _ (by omega) (by omega) (by omega) (by omega)]; exact hl6⟩, ?_⟩
      · by_cases hjk : j = k
        · rw [hjk, hX0]; omega
        · rw [hq _ (by omega) (by omega) (by omega) (by omega)]; exact hnum j (by omega)
      · rcases h7 with h7 | ⟨E', t, hE1, hE2, hE3⟩
        · exact Or.inl h7
        · refine Or.inr ⟨E', t, hE1, hE2, ?_⟩
          have hsnd : rd_of M ≠ none := fun e => by rw [e] at hE1; cases hE1
          obtain ⟨⟨q1, q2, q3, q4, q5, q6⟩, ql⟩ := hE hsnd
          obtain ⟨z, ⟨hz1, hz2⟩, rfl⟩ := hE3
          refine ⟨⟨ct_app q1 ql (fun j hj => ⟨hq _ (by omega) (by omega) (by omega) (by omega), hq _ (by omega) (by omega) (by omega) (by omega)⟩) ⟨hX0, hX1, ?_⟩, ?_, ?_, ?_, ?_, ?_⟩, by simp [ql]⟩
          · intro h; exact absurd (Or.inl rfl) h
          · rw [g9 c (by omega) (by omega)]; exact hz1
          · rw [g9 c (by omega) (by omega), hz2, g42 c (by omega) (by omega) (by omega)]
            obtain ⟨z1, z2⟩ := z
            cases z2 with
            | none => exact q3
            | some v => rfl
          · rw [hcj 13 (by omega) (by omega)]; exact q4
          · exact nl_is_cg2 hl5 (fun q a1 a2 => hq q (by omega) (by omega) (by omega) (by omega)) q5
          · exact nl_is_cg2 hl6 (fun q a1 a2 => hq q (by omega) (by omega) (by omega) (by omega)) q6
    by_cases sw46_2 : w = 2
    · skip
      refine xv_tsIn hX (nI_toInt (by omega)) (tgt := 80) dc_CT_readExtension_46 (by omega) (by omega) (by rw [sw46_2]; rfl) (by decide) ?_
      refine xv_aload_n hX 0 dc_CT_readExtension_80 rfl (rfl : _ = 81) ?_
      refine xv_aload_n hX 1 dc_CT_readExtension_81 rfl (rfl : _ = 82) ?_
      refine xv_callv hX (As := [.ref (Y.2.2.2 1)]) (rest := []) (ct_CT_readUsage _ Y M42 c hc i42 (hd42.mono (by decide))) ml_CT_158 li_CT_readUsage hc.1 (xk_N (by omega)) rfl rfl rfl (by decide) ⟨by decide, by decide⟩ ⟨Nat.le_refl _, Nat.le_refl _⟩ (Nat.le_of_ble_eq_true rfl) dc_CT_readExtension_82 (rfl : _ = 85) (fun M9 p82 => ?_)
      obtain ⟨i9, fS, fc, h9⟩ := p82
      rw [b42] at h9
      rw [e42] at h9
      refine xv_goto hX (pq := 101) dc_CT_readExtension_85 (by decide) ?_
      refine xv_aload_n hX 1 dc_CT_readExtension_101 rfl (rfl : _ = 102) ?_
      refine xv_callv hX (As := []) (rest := []) (ct_RD_close _ Y M9 i9) ml_CT_125 li_RD_close rfl (by decide) rfl rfl rfl (by decide) ⟨by decide, by decide⟩ ⟨Nat.le_refl _, Nat.le_refl _⟩ (Nat.le_of_ble_eq_true rfl) dc_CT_readExtension_102 (rfl : _ = 105) (fun M101 p102 => ?_)
      obtain ⟨i101, f101, e101⟩ := p102
      refine xv_aload_n hX 1 dc_CT_readExtension_105 rfl (rfl : _ = 106) ?_
      refine xv_callv hX (As := []) (rest := []) (ct_RD_close _ Y M101 i101) ml_CT_125 li_RD_close rfl (by decide) rfl rfl rfl (by decide) ⟨by decide, by decide⟩ ⟨Nat.le_refl _, Nat.le_refl _⟩ (Nat.le_of_ble_eq_true rfl) dc_CT_readExtension_106 (rfl : _ = 109) (fun M105 p106 => ?_)
      obtain ⟨i105, f105, e105⟩ := p106
      refine xv_retv hX hR dc_CT_readExtension_109 ?_
      have g9 : rd_F M9 M105 := f101.tr f105
      have hq : ∀ q, q ≠ 1 → q ≠ 4 → q ≠ c → q ≠ (c + 6 + 2 * k) → M105 q = M q := fun q a1 a2 a3 a4 => by rw [g9 q a1 a2, fS q a1 a2 a3, g42 q a1 a2 a4]
      have hcj : ∀ j, j ≠ 13 → M105 c j = M c j := fun j a1 => by rw [g9 c (by omega) (by omega), fc j a1, g42 c (by omega) (by omega) (by omega)]
      have hX : ∀ j, M105 (c + 6 + 2 * k) j = M42 (c + 6 + 2 * k) j := fun j => by rw [g9 _ (by omega) (by omega), fS _ (by omega) (by omega) (by omega)]
      have hX0 : M105 (c + 6 + 2 * k) 0 = w := by rw [hX, gX0]
      have hX1 : M105 (c + 6 + 2 * k) 1 = if (rd_is (M 3) 1 (rd_of M24)) = true then 1 else 0 := by rw [hX, gX1]
      have h6 := rs_con2 (c := (rd_is (M 3) 1 (rd_of M24))) (E := E) h9
      have hw9 : w = 2 := sw46_2
      subst hw9
      have h7 := rs_ext (hd.mono (by decide)) h11 hs3 h34 h6
      rw [← e101, ← e105] at h7
      refine ⟨i105, fun q a1 a2 a3 => hq q a1 a2 (by omega) (by omega), (hcj 10 (by omega)).trans h10, fun j hj => ?_, ⟨fun j a1 a2 a3 a4 => hcj j a4, fun q a1 a2 => hq q (by omega) (by omega) (by omega) (by omega)⟩, ⟨by rw [hq _ (by omega) (by omega) (by omega) (by omega)]; exact hl5, by rw [hq _ (by omega) (by omega) (by omega) (by omega)]; exact hl6⟩, ?_⟩
      · by_cases hjk : j = k
        · rw [hjk, hX0]; omega
        · rw [hq _ (by omega) (by omega) (by omega) (by omega)]; exact hnum j (by omega)
      · rcases h7 with h7 | ⟨E', t, hE1, hE2, hE3⟩
        · exact Or.inl h7
        · refine Or.inr ⟨E', t, hE1, hE2, ?_⟩
          have hsnd : rd_of M ≠ none := fun e => by rw [e] at hE1; cases hE1
          obtain ⟨⟨q1, q2, q3, q4, q5, q6⟩, ql⟩ := hE hsnd
          obtain ⟨z, hz1, rfl⟩ := hE3
          refine ⟨⟨ct_app q1 ql (fun j hj => ⟨hq _ (by omega) (by omega) (by omega) (by omega), hq _ (by omega) (by omega) (by omega) (by omega)⟩) ⟨hX0, hX1, ?_⟩, ?_, ?_, ?_, ?_, ?_⟩, by simp [ql]⟩
          · intro h; exact absurd (Or.inr (Or.inl rfl)) h
          · rw [hcj 11 (by omega)]; exact q2
          · rw [hcj 12 (by omega)]; exact q3
          · rw [g9 c (by omega) (by omega)]; exact hz1
          · exact nl_is_cg2 hl5 (fun q a1 a2 => hq q (by omega) (by omega) (by omega) (by omega)) q5
          · exact nl_is_cg2 hl6 (fun q a1 a2 => hq q (by omega) (by omega) (by omega) (by omega)) q6
    by_cases sw46_3 : w = 3
    · skip
      refine xv_tsIn hX (nI_toInt (by omega)) (tgt := 88) dc_CT_readExtension_46 (by omega) (by omega) (by rw [sw46_3]; rfl) (by decide) ?_
      refine xv_aload_n hX 0 dc_CT_readExtension_88 rfl (rfl : _ = 89) ?_
      refine xv_aload_n hX 1 dc_CT_readExtension_89 rfl (rfl : _ = 90) ?_
      refine xv_callv hX (As := [.ref (Y.2.2.2 1)]) (rest := []) (ct_CT_readBounds _ Y M42 c hc i42 hd42) ml_CT_161 li_CT_readBounds hc.1 (xk_N (by omega)) rfl rfl rfl (by decide) ⟨by decide, by decide⟩ ⟨Nat.le_refl _, Nat.le_refl _⟩ (Nat.le_of_ble_eq_true rfl) dc_CT_readExtension_90 (rfl : _ = 93) (fun M9 p90 => ?_)
      obtain ⟨i9, fS, z5, z6, h9⟩ := p90
      rw [b42] at h9
      rw [e42] at h9
      refine xv_goto hX (pq := 101) dc_CT_readExtension_93 (by decide) ?_
      refine xv_aload_n hX 1 dc_CT_readExtension_101 rfl (rfl : _ = 102) ?_
      refine xv_callv hX (As := []) (rest := []) (ct_RD_close _ Y M9 i9) ml_CT_125 li_RD_close rfl (by decide) rfl rfl rfl (by decide) ⟨by decide, by decide⟩ ⟨Nat.le_refl _, Nat.le_refl _⟩ (Nat.le_of_ble_eq_true rfl) dc_CT_readExtension_102 (rfl : _ = 105) (fun M101 p102 => ?_)
      obtain ⟨i101, f101, e101⟩ := p102
      refine xv_aload_n hX 1 dc_CT_readExtension_105 rfl (rfl : _ = 106) ?_
      refine xv_callv hX (As := []) (rest := []) (ct_RD_close _ Y M101 i101) ml_CT_125 li_RD_close rfl (by decide) rfl rfl rfl (by decide) ⟨by decide, by decide⟩ ⟨Nat.le_refl _, Nat.le_refl _⟩ (Nat.le_of_ble_eq_true rfl) dc_CT_readExtension_106 (rfl : _ = 109) (fun M105 p106 => ?_)
      obtain ⟨i105, f105, e105⟩ := p106
      refine xv_retv hX hR dc_CT_readExtension_109 ?_
      have g9 : rd_F M9 M105 := f101.tr f105
      have hq : ∀ q, q ≠ 1 → q ≠ 4 → (q < c + 14 ∨ c + 30 ≤ q) → q ≠ (c + 6 + 2 * k) → M105 q = M q := fun q a1 a2 a3 a4 => by rw [g9 q a1 a2, fS q a1 a2 a3, g42 q a1 a2 a4]
      have hcj : ∀ j, M105 c j = M c j := fun j => by rw [hq c (by omega) (by omega) (by omega) (by omega)]
      have hX : ∀ j, M105 (c + 6 + 2 * k) j = M42 (c + 6 + 2 * k) j := fun j => by rw [g9 _ (by omega) (by omega), fS _ (by omega) (by omega) (by omega)]
      have hX0 : M105 (c + 6 + 2 * k) 0 = w := by rw [hX, gX0]
      have hX1 : M105 (c + 6 + 2 * k) 1 = if (rd_is (M 3) 1 (rd_of M24)) = true then 1 else 0 := by rw [hX, gX1]
      have h6 := rs_con3 (c := (rd_is (M 3) 1 (rd_of M24))) (E := E) h9
      have hw9 : w = 3 := sw46_3
      subst hw9
      have h7 := rs_ext (hd.mono (by decide)) h11 hs3 h34 h6
      rw [← e101, ← e105] at h7
      refine ⟨i105, fun q a1 a2 a3 => hq q a1 a2 (by omega) (by omega), (hcj 10 ).trans h10, fun j hj => ?_, ⟨fun j a1 a2 a3 a4 => hcj j , fun q a1 a2 => hq q (by omega) (by omega) (by omega) (by omega)⟩, ⟨by rw [g9 _ (by omega) (by omega)]; exact z5, by rw [g9 _ (by omega) (by omega)]; exact z6⟩, ?_⟩
      · by_cases hjk : j = k
        · rw [hjk, hX0]; omega
        · rw [hq _ (by omega) (by omega) (by omega) (by omega)]; exact hnum j (by omega)
      · rcases h7 with h7 | ⟨E', t, hE1, hE2, hE3⟩
        · exact Or.inl h7
        · refine Or.inr ⟨E', t, hE1, hE2, ?_⟩
          have hsnd : rd_of M ≠ none := fun e => by rw [e] at hE1; cases hE1
          obtain ⟨⟨q1, q2, q3, q4, q5, q6⟩, ql⟩ := hE hsnd
          obtain ⟨z, ⟨hz1, hz2⟩, rfl⟩ := hE3
          refine ⟨⟨ct_app q1 ql (fun j hj => ⟨hq _ (by omega) (by omega) (by omega) (by omega), hq _ (by omega) (by omega) (by omega) (by omega)⟩) ⟨hX0, hX1, ?_⟩, ?_, ?_, ?_, ?_, ?_⟩, by simp [ql]⟩
          · intro h; exact absurd (Or.inr (Or.inr rfl)) h
          · rw [hcj 11]; exact q2
          · rw [hcj 12]; exact q3
          · rw [hcj 13]; exact q4
          · exact nl_is_cg2 z5 (fun q a1 a2 => g9 q (by omega) (by omega)) hz1
          · exact nl_is_cg2 z6 (fun q a1 a2 => g9 q (by omega) (by omega)) hz2
    refine xv_tsOut hX (nI_toInt (by omega)) (tgt := 96) dc_CT_readExtension_46 (by omega) (by decide) ?_
    refine xv_aload_n hX 2 dc_CT_readExtension_96 rfl (rfl : _ = 97) ?_
    refine xv_aload_n hX 1 dc_CT_readExtension_97 rfl (rfl : _ = 98) ?_
    refine xv_callv hX (As := [.ref (Y.2.2.2 1)]) (rest := []) (ct_EX_readOctets _ Y M42 (c + 6 + 2 * k) hxp i42) ml_CT_164 li_EX_readOctets (hc.2.2.2.1.2.2 _ (by omega)).2.1 (xk_N (by omega)) rfl rfl rfl (by decide) ⟨by decide, by decide⟩ ⟨Nat.le_refl _, Nat.le_refl _⟩ (Nat.le_of_ble_eq_true rfl) dc_CT_readExtension_98 (rfl : _ = 101) (fun M9 p98 => ?_)
    obtain ⟨i9, ⟨fS, fx0, fx1⟩, h9, ho9⟩ := p98
    rw [b42] at ho9
    rw [e42] at h9
    refine xv_aload_n hX 1 dc_CT_readExtension_101 rfl (rfl : _ = 102) ?_
    refine xv_callv hX (As := []) (rest := []) (ct_RD_close _ Y M9 i9) ml_CT_125 li_RD_close rfl (by decide) rfl rfl rfl (by decide) ⟨by decide, by decide⟩ ⟨Nat.le_refl _, Nat.le_refl _⟩ (Nat.le_of_ble_eq_true rfl) dc_CT_readExtension_102 (rfl : _ = 105) (fun M101 p102 => ?_)
    obtain ⟨i101, f101, e101⟩ := p102
    refine xv_aload_n hX 1 dc_CT_readExtension_105 rfl (rfl : _ = 106) ?_
    refine xv_callv hX (As := []) (rest := []) (ct_RD_close _ Y M101 i101) ml_CT_125 li_RD_close rfl (by decide) rfl rfl rfl (by decide) ⟨by decide, by decide⟩ ⟨Nat.le_refl _, Nat.le_refl _⟩ (Nat.le_of_ble_eq_true rfl) dc_CT_readExtension_106 (rfl : _ = 109) (fun M105 p106 => ?_)
    obtain ⟨i105, f105, e105⟩ := p106
    refine xv_retv hX hR dc_CT_readExtension_109 ?_
    have g9 : rd_F M9 M105 := f101.tr f105
    have hq : ∀ q, q ≠ 1 → q ≠ 4 → q ≠ (c + 6 + 2 * k) → q ≠ (c + 6 + 2 * k) + 1 → M105 q = M q := fun q a1 a2 a3 a4 => by rw [g9 q a1 a2, fS q a1 a2 a3 a4, g42 q a1 a2 a3]
    have hcj : ∀ j, M105 c j = M c j := fun j => by rw [hq c (by omega) (by omega) (by omega) (by omega)]
    have hX0 : M105 (c + 6 + 2 * k) 0 = w := by rw [g9 _ (by omega) (by omega), fx0, gX0]
    have hX1 : M105 (c + 6 + 2 * k) 1 = if (rd_is (M 3) 1 (rd_of M24)) = true then 1 else 0 := by rw [g9 _ (by omega) (by omega), fx1, gX1]
    have h6 := rs_con4 (b := M 3) (c := (rd_is (M 3) 1 (rd_of M24))) (E := E) (num := w) (by omega) h9
    have h7 := rs_ext (hd.mono (by decide)) h11 hs3 h34 h6
    rw [← e101, ← e105] at h7
    refine ⟨i105, fun q a1 a2 a3 => hq q a1 a2 (by omega) (by omega), (hcj 10 ).trans h10, fun j hj => ?_, ⟨fun j a1 a2 a3 a4 => hcj j , fun q a1 a2 => hq q (by omega) (by omega) (by omega) (by omega)⟩, ⟨by rw [hq _ (by omega) (by omega) (by omega) (by omega)]; exact hl5, by rw [hq _ (by omega) (by omega) (by omega) (by omega)]; exact hl6⟩, ?_⟩
    · by_cases hjk : j = k
      · rw [hjk, hX0]; omega
      · rw [hq _ (by omega) (by omega) (by omega) (by omega)]; exact hnum j (by omega)
    · rcases h7 with h7 | ⟨E', t, hE1, hE2, hE3⟩
      · exact Or.inl h7
      · refine Or.inr ⟨E', t, hE1, hE2, ?_⟩
        have hsnd : rd_of M ≠ none := fun e => by rw [e] at hE1; cases hE1
        obtain ⟨⟨q1, q2, q3, q4, q5, q6⟩, ql⟩ := hE hsnd
        obtain ⟨i, l, ls, hz1, hz2, rfl⟩ := hE3
        refine ⟨⟨ct_app q1 ql (fun j hj => ⟨hq _ (by omega) (by omega) (by omega) (by omega), hq _ (by omega) (by omega) (by omega) (by omega)⟩) ⟨hX0, hX1, ?_⟩, ?_, ?_, ?_, ?_, ?_⟩, by simp [ql]⟩
        · intro _
          obtain ⟨r1, r2⟩ := ho9 i l ls (by rw [e42]; exact hz1) hz2
          rw [g9 _ (by omega) (by omega), g9 _ (by omega) (by omega)]
          refine ⟨by rw [r1]; exact (ps_sl_len _ _ _).symm, fun j hj => ?_⟩
          have hj : j < (ps_sl (M 3) i l).length := hj
          rw [ps_sl_len] at hj
          rw [r2 j hj]
          simp [ps_sl, hj]
        · rw [hcj 11]; exact q2
        · rw [hcj 12]; exact q3
        · rw [hcj 13]; exact q4
        · exact nl_is_cg2 hl5 (fun q a1 a2 => hq q (by omega) (by omega) (by omega) (by omega)) q5
        · exact nl_is_cg2 hl6 (fun q a1 a2 => hq q (by omega) (by omega) (by omega) (by omega)) q6
end
section
/-! Certificate: its head -/
set_option maxRecDepth 100000 in
set_option maxHeartbeats 4000000 in
theorem ct_CT_readHead (l : Launch) (Y : xw_Y) (M : xm_M) (c : Nat) (hc : xk_ct c) (hI : rd_I M) (hd : rd_D 2 (rd_of M)) : xc_v l qm_CT_readHead 2 Y [.ref (Y.2.2.2 c), .ref (Y.2.2.2 1)] M (fun M1 => rd_I M1 ∧ (∀ q, q ≠ 1 → q ≠ 4 → (q < c ∨ c + 5 ≤ q) → M1 q = M q) ∧ (∀ j, j ≠ 0 → j ≠ 2 → j ≠ 3 → j ≠ 5 → j ≠ 6 → M1 c j = M c j) ∧ rs_ok (rd_run (ps_head (M 3)) (rd_of M)) (rd_of M1) (ct_H M1 c)) := by
  refine xc_v.mk rfl (by decide) (Nat.le_of_ble_eq_true rfl) ?_
  intro X hXl hX hR
  subst hXl
  have hX : xv_ok X Y prog_3_method_12_code "CertificatePath$Certificate" 2 (xc_rm 2) := hX
  show xv_V X Y 2 0 0 xw_lk xw_N M 0 [(0, .ref (Y.2.2.2 c)), (1, .ref (Y.2.2.2 1))] []
  have hc6 : 6 ≤ c := hc.2.2.2.2.2.2.1
  have hc29 : c + 29 < 276 := hc.2.2.2.2.2.2.2
  have b0 : M 3 = M 3 := rfl
  refine xv_aload_n hX 0 dc_CT_readHead_0 rfl (rfl : _ = 1) ?_
  refine xv_aload_n hX 1 dc_CT_readHead_1 rfl (rfl : _ = 2) ?_
  refine xv_iconst hX (v := nI 0) dc_CT_readHead_2 (by decide) (rfl : _ = 3) ?_
  refine xv_ldc hX (v := nI 2147483647) kc_CT_132 dc_CT_readHead_3 (rfl : _ = 5) ?_
  refine xv_calli hX (As := [.int (nI 0), .int (nI 2147483647)]) (rest := [.ref (Y.2.2.2 c)]) (ct_RD_readInteger _ Y M 0 2147483647 hI (by decide) (by decide)) ml_CT_133 li_RD_readInteger rfl (by decide) rfl rfl rfl (by decide) ⟨by decide, by decide⟩ ⟨Nat.le_refl _, Nat.le_refl _⟩ (Nat.le_of_ble_eq_true rfl) dc_CT_readHead_5 (rfl : _ = 8) (fun r5 M5 p5 => ?_)
  obtain ⟨⟨i5, f5, e5⟩, w5, z5, hwa5, hwb5, hwc5⟩ := p5
  rw [z5]
  rw [b0] at e5 hwc5
  have h5 := rs_int (hd.mono (by decide)) e5 hwc5
  have hc5 : ∀ q, q < 6 → (xm_set M5 c 0 w5) q = M5 q := fun q hq => xm_oth (by omega)
  have j5 : rd_I (xm_set M5 c 0 w5) := i5.cg hc5
  have o5 : rd_of (xm_set M5 c 0 w5) = rd_of M5 := rd_of_cg hc5
  have b5 : (xm_set M5 c 0 w5) 3 = M 3 := by rw [hc5 3 (by decide), f5 3 (by decide) (by decide), b0]
  refine xv_puti hX fl_CT_58 rfl hc.1 (xk_N (by omega)) dc_CT_readHead_8 (rfl : _ = 11) ?_
  refine xv_aload_n hX 0 dc_CT_readHead_11 rfl (rfl : _ = 12) ?_
  refine xv_getr hX fl_CT_12 rfl hc.1 (xk_N (by omega)) hc.2.1.1 dc_CT_readHead_12 (rfl : _ = 15) ?_
  refine xv_aload_n hX 1 dc_CT_readHead_15 rfl (rfl : _ = 16) ?_
  refine xv_callv hX (As := [.ref (Y.2.2.2 1)]) (rest := []) (ct_NM_readFrom _ Y (xm_set M5 c 0 w5) (c + 1) hc.2.1.2 j5 (by rw [o5]; exact rs_D h5 hd)) ml_CT_140 li_NM_readFrom hc.2.1.2.1 (xk_N (Nat.lt_of_succ_lt hc.2.1.2.2.2.2.2)) rfl rfl rfl (by decide) ⟨by decide, by decide⟩ ⟨Nat.le_refl _, Nat.le_refl _⟩ (Nat.le_of_ble_eq_true rfl) dc_CT_readHead_16 (rfl : _ = 19) (fun M16 p16 => ?_)
  obtain ⟨i16, f16, -, h16⟩ := p16
  have h16 := rs_tr h16
  rw [b5] at h16
  have b16 : M16 3 = M 3 := by rw [f16 3 (by decide) (by decide) (by omega) (by omega), b5]
  have hd16 : rd_D 2 (rd_of M16) := rs_D h16 (by rw [o5]; exact rs_D h5 hd)
  rw [o5] at h16
  refine xv_aload_n hX 1 dc_CT_readHead_19 rfl (rfl : _ = 20) ?_
  refine xv_bipush hX (v := nI 48) dc_CT_readHead_20 (by decide) (rfl : _ = 22) ?_
  refine xv_callv hX (As := [.int (nI 48)]) (rest := []) (ct_RD_open _ Y M16 48 i16 (by decide)) ml_CT_102 li_RD_open rfl (by decide) rfl rfl rfl (by decide) ⟨by decide, by decide⟩ ⟨Nat.le_refl _, Nat.le_refl _⟩ (Nat.le_of_ble_eq_true rfl) dc_CT_readHead_22 (rfl : _ = 25) (fun M22 p22 => ?_)
  obtain ⟨i22, f22, e22⟩ := p22
  rw [b16] at e22
  have b22 : M22 3 = M 3 := by rw [f22 3 (by decide) (by decide), b16]
  have hd22 : rd_D 1 (rd_of M22) := by rw [e22]; exact rd_D.opn hd16
  refine xv_aload_n hX 0 dc_CT_readHead_25 rfl (rfl : _ = 26) ?_
  refine xv_aload_n hX 1 dc_CT_readHead_26 rfl (rfl : _ = 27) ?_
  refine xv_iconst hX (v := nI 0) dc_CT_readHead_27 (by decide) (rfl : _ = 28) ?_
  refine xv_ldc hX (v := nI 2147483647) kc_CT_132 dc_CT_readHead_28 (rfl : _ = 30) ?_
  refine xv_calli hX (As := [.int (nI 0), .int (nI 2147483647)]) (rest := [.ref (Y.2.2.2 c)]) (ct_RD_readInteger _ Y M22 0 2147483647 i22 (by decide) (by decide)) ml_CT_133 li_RD_readInteger rfl (by decide) rfl rfl rfl (by decide) ⟨by decide, by decide⟩ ⟨Nat.le_refl _, Nat.le_refl _⟩ (Nat.le_of_ble_eq_true rfl) dc_CT_readHead_30 (rfl : _ = 33) (fun r30 M30 p30 => ?_)
  obtain ⟨⟨i30, f30, e30⟩, w30, z30, hwa30, hwb30, hwc30⟩ := p30
  rw [z30]
  rw [b22] at e30 hwc30
  have h30 := rs_int hd22 e30 hwc30
  have hc30 : ∀ q, q < 6 → (xm_set M30 c 2 w30) q = M30 q := fun q hq => xm_oth (by omega)
  have j30 : rd_I (xm_set M30 c 2 w30) := i30.cg hc30
  have o30 : rd_of (xm_set M30 c 2 w30) = rd_of M30 := rd_of_cg hc30
  have b30 : (xm_set M30 c 2 w30) 3 = M 3 := by rw [hc30 3 (by decide), f30 3 (by decide) (by decide), b22]
  refine xv_puti hX fl_CT_61 rfl hc.1 (xk_N (by omega)) dc_CT_readHead_33 (rfl : _ = 36) ?_
  refine xv_aload_n hX 0 dc_CT_readHead_36 rfl (rfl : _ = 37) ?_
  refine xv_aload_n hX 1 dc_CT_readHead_37 rfl (rfl : _ = 38) ?_
  refine xv_iconst hX (v := nI 0) dc_CT_readHead_38 (by decide) (rfl : _ = 39) ?_
  refine xv_ldc hX (v := nI 2147483647) kc_CT_132 dc_CT_readHead_39 (rfl : _ = 41) ?_
  refine xv_calli hX (As := [.int (nI 0), .int (nI 2147483647)]) (rest := [.ref (Y.2.2.2 c)]) (ct_RD_readInteger _ Y (xm_set M30 c 2 w30) 0 2147483647 j30 (by decide) (by decide)) ml_CT_133 li_RD_readInteger rfl (by decide) rfl rfl rfl (by decide) ⟨by decide, by decide⟩ ⟨Nat.le_refl _, Nat.le_refl _⟩ (Nat.le_of_ble_eq_true rfl) dc_CT_readHead_41 (rfl : _ = 44) (fun r41 M41 p41 => ?_)
  obtain ⟨⟨i41, f41, e41⟩, w41, z41, hwa41, hwb41, hwc41⟩ := p41
  rw [z41]
  rw [o30, b30] at e41 hwc41
  have h41 := rs_int (rs_D h30 hd22) e41 hwc41
  have hc41 : ∀ q, q < 6 → (xm_set M41 c 3 w41) q = M41 q := fun q hq => xm_oth (by omega)
  have j41 : rd_I (xm_set M41 c 3 w41) := i41.cg hc41
  have o41 : rd_of (xm_set M41 c 3 w41) = rd_of M41 := rd_of_cg hc41
  have b41 : (xm_set M41 c 3 w41) 3 = M 3 := by rw [hc41 3 (by decide), f41 3 (by decide) (by decide), b30]
  refine xv_puti hX fl_CT_64 rfl hc.1 (xk_N (by omega)) dc_CT_readHead_44 (rfl : _ = 47) ?_
  refine xv_aload_n hX 1 dc_CT_readHead_47 rfl (rfl : _ = 48) ?_
  refine xv_callv hX (As := []) (rest := []) (ct_RD_close _ Y (xm_set M41 c 3 w41) j41) ml_CT_125 li_RD_close rfl (by decide) rfl rfl rfl (by decide) ⟨by decide, by decide⟩ ⟨Nat.le_refl _, Nat.le_refl _⟩ (Nat.le_of_ble_eq_true rfl) dc_CT_readHead_48 (rfl : _ = 51) (fun M48 p48 => ?_)
  obtain ⟨i48, f48, e48⟩ := p48
  rw [o41] at e48
  rw [e22] at h30
  have h48 := rs_in (hd16.mono (by decide)) (rs_and h30 h41)
  rw [← e48] at h48
  have b48 : M48 3 = M 3 := by rw [f48 3 (by decide) (by decide), b41]
  have hd48 : rd_D 2 (rd_of M48) := rs_D h48 hd16
  refine xv_aload_n hX 0 dc_CT_readHead_51 rfl (rfl : _ = 52) ?_
  refine xv_getr hX fl_CT_18 rfl hc.1 (xk_N (by omega)) hc.2.2.1.1 dc_CT_readHead_52 (rfl : _ = 55) ?_
  refine xv_aload_n hX 1 dc_CT_readHead_55 rfl (rfl : _ = 56) ?_
  refine xv_callv hX (As := [.ref (Y.2.2.2 1)]) (rest := []) (ct_NM_readFrom _ Y M48 (c + 3) hc.2.2.1.2 i48 hd48) ml_CT_140 li_NM_readFrom hc.2.2.1.2.1 (xk_N (Nat.lt_of_succ_lt hc.2.2.1.2.2.2.2.2)) rfl rfl rfl (by decide) ⟨by decide, by decide⟩ ⟨Nat.le_refl _, Nat.le_refl _⟩ (Nat.le_of_ble_eq_true rfl) dc_CT_readHead_56 (rfl : _ = 59) (fun M56 p56 => ?_)
  obtain ⟨i56, f56, -, h56⟩ := p56
  have h56 := rs_tr h56
  rw [b48] at h56
  have b56 : M56 3 = M 3 := by rw [f56 3 (by decide) (by decide) (by omega) (by omega), b48]
  have hd56 : rd_D 2 (rd_of M56) := rs_D h56 hd48
  refine xv_aload_n hX 1 dc_CT_readHead_59 rfl (rfl : _ = 60) ?_
  refine xv_bipush hX (v := nI 48) dc_CT_readHead_60 (by decide) (rfl : _ = 62) ?_
  refine xv_callv hX (As := [.int (nI 48)]) (rest := []) (ct_RD_open _ Y M56 48 i56 (by decide)) ml_CT_102 li_RD_open rfl (by decide) rfl rfl rfl (by decide) ⟨by decide, by decide⟩ ⟨Nat.le_refl _, Nat.le_refl _⟩ (Nat.le_of_ble_eq_true rfl) dc_CT_readHead_62 (rfl : _ = 65) (fun M62 p62 => ?_)
  obtain ⟨i62, f62, e62⟩ := p62
  rw [b56] at e62
  have b62 : M62 3 = M 3 := by rw [f62 3 (by decide) (by decide), b56]
  have hd62 : rd_D 1 (rd_of M62) := by rw [e62]; exact rd_D.opn hd56
  refine xv_aload_n hX 0 dc_CT_readHead_65 rfl (rfl : _ = 66) ?_
  refine xv_aload_n hX 1 dc_CT_readHead_66 rfl (rfl : _ = 67) ?_
  refine xv_iconst hX (v := nI 2) dc_CT_readHead_67 (by decide) (rfl : _ = 68) ?_
  refine xv_ldc hX (v := nI 2147483647) kc_CT_132 dc_CT_readHead_68 (rfl : _ = 70) ?_
  refine xv_calli hX (As := [.int (nI 2), .int (nI 2147483647)]) (rest := [.ref (Y.2.2.2 c)]) (ct_RD_readInteger _ Y M62 2 2147483647 i62 (by decide) (by decide)) ml_CT_133 li_RD_readInteger rfl (by decide) rfl rfl rfl (by decide) ⟨by decide, by decide⟩ ⟨Nat.le_refl _, Nat.le_refl _⟩ (Nat.le_of_ble_eq_true rfl) dc_CT_readHead_70 (rfl : _ = 73) (fun r70 M70 p70 => ?_)
  obtain ⟨⟨i70, f70, e70⟩, w70, z70, hwa70, hwb70, hwc70⟩ := p70
  rw [z70]
  rw [b62] at e70 hwc70
  have h70 := rs_int hd62 e70 hwc70
  have hc70 : ∀ q, q < 6 → (xm_set M70 c 5 w70) q = M70 q := fun q hq => xm_oth (by omega)
  have j70 : rd_I (xm_set M70 c 5 w70) := i70.cg hc70
  have o70 : rd_of (xm_set M70 c 5 w70) = rd_of M70 := rd_of_cg hc70
  have b70 : (xm_set M70 c 5 w70) 3 = M 3 := by rw [hc70 3 (by decide), f70 3 (by decide) (by decide), b62]
  refine xv_puti hX fl_CT_67 rfl hc.1 (xk_N (by omega)) dc_CT_readHead_73 (rfl : _ = 76) ?_
  refine xv_aload_n hX 0 dc_CT_readHead_76 rfl (rfl : _ = 77) ?_
  refine xv_aload_n hX 1 dc_CT_readHead_77 rfl (rfl : _ = 78) ?_
  refine xv_iconst hX (v := nI 1) dc_CT_readHead_78 (by decide) (rfl : _ = 79) ?_
  refine xv_sipush hX (v := nI 1000) dc_CT_readHead_79 (by decide) (rfl : _ = 82) ?_
  refine xv_calli hX (As := [.int (nI 1), .int (nI 1000)]) (rest := [.ref (Y.2.2.2 c)]) (ct_RD_readInteger _ Y (xm_set M70 c 5 w70) 1 1000 j70 (by decide) (by decide)) ml_CT_133 li_RD_readInteger rfl (by decide) rfl rfl rfl (by decide) ⟨by decide, by decide⟩ ⟨Nat.le_refl _, Nat.le_refl _⟩ (Nat.le_of_ble_eq_true rfl) dc_CT_readHead_82 (rfl : _ = 85) (fun r82 M82 p82 => ?_)
  obtain ⟨⟨i82, f82, e82⟩, w82, z82, hwa82, hwb82, hwc82⟩ := p82
  rw [z82]
  rw [o70, b70] at e82 hwc82
  have h82 := rs_int (rs_D h70 hd62) e82 hwc82
  have hc82 : ∀ q, q < 6 → (xm_set M82 c 6 w82) q = M82 q := fun q hq => xm_oth (by omega)
  have j82 : rd_I (xm_set M82 c 6 w82) := i82.cg hc82
  have o82 : rd_of (xm_set M82 c 6 w82) = rd_of M82 := rd_of_cg hc82
  have b82 : (xm_set M82 c 6 w82) 3 = M 3 := by rw [hc82 3 (by decide), f82 3 (by decide) (by decide), b70]
  refine xv_puti hX fl_CT_70 rfl hc.1 (xk_N (by omega)) dc_CT_readHead_85 (rfl : _ = 88) ?_
  refine xv_aload_n hX 1 dc_CT_readHead_88 rfl (rfl : _ = 89) ?_
  refine xv_callv hX (As := []) (rest := []) (ct_RD_close _ Y (xm_set M82 c 6 w82) j82) ml_CT_125 li_RD_close rfl (by decide) rfl rfl rfl (by decide) ⟨by decide, by decide⟩ ⟨Nat.le_refl _, Nat.le_refl _⟩ (Nat.le_of_ble_eq_true rfl) dc_CT_readHead_89 (rfl : _ = 92) (fun M89 p89 => ?_)
  obtain ⟨i89, f89, e89⟩ := p89
  rw [o82] at e89
  rw [e62] at h70
  have h89 := rs_in (hd56.mono (by decide)) (rs_and h70 h82)
  rw [← e89] at h89
  refine xv_retv hX hR dc_CT_readHead_92 ?_
  have hh := rs_and h5 (rs_and h16 (rs_and h48 (rs_and h56 h89)))
  have g89 : ∀ j, j ≠ 6 → M89 c j = M82 c j := fun j a => by rw [f89 c (by omega) (by omega), xm_nk a]
  have g70 : ∀ j, j ≠ 5 → M82 c j = M70 c j := fun j a => by rw [f82 c (by omega) (by omega), xm_nk a]
  have g56 : ∀ j, M70 c j = M48 c j := fun j => by rw [f70 c (by omega) (by omega), f62 c (by omega) (by omega), f56 c (by omega) (by omega) (by omega) (by omega)]
  have g48 : ∀ j, j ≠ 3 → M48 c j = M41 c j := fun j a => by rw [f48 c (by omega) (by omega), xm_nk a]
  have g41 : ∀ j, j ≠ 2 → M41 c j = M30 c j := fun j a => by rw [f41 c (by omega) (by omega), xm_nk a]
  have g16 : ∀ j, M30 c j = xm_set M5 c 0 w5 c j := fun j => by rw [f30 c (by omega) (by omega), f22 c (by omega) (by omega), f16 c (by omega) (by omega) (by omega) (by omega)]
  have t89 : ∀ q, q ≠ 1 → q ≠ 4 → q ≠ c → M89 q = M56 q := fun q a1 a2 a3 => by rw [f89 q a1 a2, xm_oth a3, f82 q a1 a2, xm_oth a3, f70 q a1 a2, f62 q a1 a2]
  have t48 : ∀ q, q ≠ 1 → q ≠ 4 → q ≠ c → M48 q = M16 q := fun q a1 a2 a3 => by rw [f48 q a1 a2, xm_oth a3, f41 q a1 a2, xm_oth a3, f30 q a1 a2, f22 q a1 a2]
  refine ⟨i89, fun q a1 a2 a3 => ?_, fun j a1 a2 a3 a4 a5 => ?_, hh.imp (fun z hz => ?_)⟩
  · rw [t89 q a1 a2 (by omega), f56 q a1 a2 (by omega) (by omega), t48 q a1 a2 (by omega), f16 q a1 a2 (by omega) (by omega), xm_oth (by omega), f5 q a1 a2]
  · rw [g89 j a5, g70 j a4, g56, g48 j a3, g41 j a2, g16, xm_nk a1, f5 c (by omega) (by omega)]
  · obtain ⟨z1, z2, ⟨z3, z4⟩, z5, z6, z7⟩ := hz
    refine ⟨?_, ?_, ⟨?_, ?_⟩, ?_, ?_, ?_⟩
    · rw [z1, g89 0 (by decide), g70 0 (by decide), g56, g48 0 (by decide), g41 0 (by decide), g16, xm_eq]
    · exact nm_is_cg (by rw [t89 _ (by omega) (by omega) (by omega), f56 _ (by omega) (by omega) (by omega) (by omega), t48 _ (by omega) (by omega) (by omega)]) (by rw [t89 _ (by omega) (by omega) (by omega), f56 _ (by omega) (by omega) (by omega) (by omega), t48 _ (by omega) (by omega) (by omega)]) z2
    · rw [z3, g89 2 (by decide), g70 2 (by decide), g56, g48 2 (by decide), f41 c (by omega) (by omega), xm_eq]
    · rw [z4, g89 3 (by decide), g70 3 (by decide), g56, f48 c (by omega) (by omega), xm_eq]
    · exact nm_is_cg (by rw [t89 _ (by omega) (by omega) (by omega)]) (by rw [t89 _ (by omega) (by omega) (by omega)]) z5
    · rw [z6, g89 5 (by decide), f82 c (by omega) (by omega), xm_eq]
    · rw [z7, f89 c (by omega) (by omega), xm_eq]
end
section
/-! Certificate: all of it is read -/
set_option maxRecDepth 100000 in
set_option maxHeartbeats 4000000 in
theorem ct_CT_readFrom (l : Launch) (Y : xw_Y) (M : xm_M) (c : Nat) (hc : xk_ct c) (h1 : M 2 1 ≤ 160) (h2 : ∀ j, j < 160 → M 3 j < 256) : xc_i l qm_CT_readFrom 5 Y [.ref (Y.2.2.2 c), .ref (Y.2.2.2 1)] M (fun r M1 => rd_I M1 ∧ ct_F c M M1 ∧ ∃ t : Nat, r = nI t ∧ t < 2 ∧ (t = 1 → ∃ C, ps_cert (M 3) 0 (M 2 1) = some C ∧ ct_C (M 3) M1 c C) ∧ (t = 0 → ps_cert (M 3) 0 (M 2 1) = none)) := by
  refine xc_i.mk .boolean rfl (by decide) (Nat.le_of_ble_eq_true rfl) ?_
  intro X hXl hX hR
  subst hXl
  have hX : xv_ok X Y prog_3_method_11_code "CertificatePath$Certificate" 3 (xc_rm 5) := hX
  show xv_V X Y 3 0 0 xw_lk xw_N M 0 [(0, .ref (Y.2.2.2 c)), (1, .ref (Y.2.2.2 1))] []
  have hc6 : 6 ≤ c := hc.2.2.2.2.2.2.1
  have hc29 : c + 29 < 276 := hc.2.2.2.2.2.2.2
  refine xv_aload_n hX 0 dc_CT_readFrom_0 rfl (rfl : _ = 1) ?_
  refine xv_callv hX (As := []) (rest := []) (ct_CT_forgetExtensions _ Y M c hc) ml_CT_38 li_CT_forgetExtensions hc.1 (xk_N (by omega)) rfl rfl rfl (by decide) ⟨by decide, by decide⟩ ⟨Nat.le_refl _, Nat.le_refl _⟩ (Nat.le_of_ble_eq_true rfl) dc_CT_readFrom_1 (rfl : _ = 4) (fun M1 p1 => ?_)
  have g1 : ∀ q, q ≠ c → q ≠ c + 14 → q ≠ c + 22 → M1 q = M q := fun q a1 a2 a3 => by rw [p1, xm_oth a3, xm_oth a2, xm_oth a1, xm_oth a1, xm_oth a1, xm_oth a1]
  have y10 : M1 c 10 = 0 := by rw [p1, xm_np (by omega), xm_np (by omega), xm_nk (by decide), xm_nk (by decide), xm_nk (by decide), xm_eq]
  have y11 : M1 c 11 = 0 := by rw [p1, xm_np (by omega), xm_np (by omega), xm_nk (by decide), xm_nk (by decide), xm_eq]
  have y12 : M1 c 12 = 4294967295 := by rw [p1, xm_np (by omega), xm_np (by omega), xm_nk (by decide), xm_eq]
  have y13 : M1 c 13 = 4294967295 := by rw [p1, xm_np (by omega), xm_np (by omega), xm_eq]
  have y14 : M1 (c + 14) 1 = 0 := by rw [p1, xm_np (by omega), xm_eq]
  have y22 : M1 (c + 22) 1 = 0 := by rw [p1, xm_eq]
  have v2 : M1 2 = M 2 := g1 2 (by omega) (by omega) (by omega)
  have v3 : M1 3 = M 3 := g1 3 (by omega) (by omega) (by omega)
  refine xv_aload_n hX 1 dc_CT_readFrom_4 rfl (rfl : _ = 5) ?_
  refine xv_callv hX (As := []) (rest := []) (ct_RD_start _ Y M1 (by rw [v2]; exact h1) (by rw [v3]; exact h2)) ml_CT_97 li_RD_start rfl (by decide) rfl rfl rfl (by decide) ⟨by decide, by decide⟩ ⟨Nat.le_refl _, Nat.le_refl _⟩ (Nat.le_of_ble_eq_true rfl) dc_CT_readFrom_5 (rfl : _ = 8) (fun M5 p5 => ?_)
  obtain ⟨i5, f5, e5⟩ := p5
  rw [v2] at e5
  have b5 : M5 3 = M 3 := by rw [f5 3 (by decide) (by decide), v3]
  have hd5 : rd_D 10 (some (0, [M 2 1])) := fun i l ls h => by simp only [Option.some.injEq, Prod.mk.injEq, List.cons.injEq] at h; rw [← h.2.2]; decide
  refine xv_aload_n hX 1 dc_CT_readFrom_8 rfl (rfl : _ = 9) ?_
  refine xv_bipush hX (v := nI 48) dc_CT_readFrom_9 (by decide) (rfl : _ = 11) ?_
  refine xv_callv hX (As := [.int (nI 48)]) (rest := []) (ct_RD_open _ Y M5 48 i5 (by decide)) ml_CT_102 li_RD_open rfl (by decide) rfl rfl rfl (by decide) ⟨by decide, by decide⟩ ⟨Nat.le_refl _, Nat.le_refl _⟩ (Nat.le_of_ble_eq_true rfl) dc_CT_readFrom_11 (rfl : _ = 14) (fun M11 p11 => ?_)
  obtain ⟨i11, f11, e11⟩ := p11
  rw [b5, e5] at e11
  have b11 : M11 3 = M 3 := by rw [f11 3 (by decide) (by decide), b5]
  have hd11 : rd_D 9 (rd_of M11) := by rw [e11]; exact rd_D.opn hd5
  have at11 : M11 1 3 ≤ 160 := by have h := i11.2.2.2.1; have h9 := i11.1; omega
  refine xv_aload_n hX 1 dc_CT_readFrom_14 rfl (rfl : _ = 15) ?_
  refine xv_geti hX fl_CT_106 rfl rfl (by decide) (v := M11 1 3) rfl dc_CT_readFrom_15 (rfl : _ = 18) ?_
  refine xv_istore_n hX [1, 2, 0] dc_CT_readFrom_18 (by decide) (L' := [(0, .ref (Y.2.2.2 c)), (1, .ref (Y.2.2.2 1)), (2, .int (nI (M11 1 3)))]) rfl (rfl : _ = 19) ?_
  refine xv_aload_n hX 1 dc_CT_readFrom_19 rfl (rfl : _ = 20) ?_
  refine xv_bipush hX (v := nI 48) dc_CT_readFrom_20 (by decide) (rfl : _ = 22) ?_
  refine xv_callv hX (As := [.int (nI 48)]) (rest := []) (ct_RD_open _ Y M11 48 i11 (by decide)) ml_CT_102 li_RD_open rfl (by decide) rfl rfl rfl (by decide) ⟨by decide, by decide⟩ ⟨Nat.le_refl _, Nat.le_refl _⟩ (Nat.le_of_ble_eq_true rfl) dc_CT_readFrom_22 (rfl : _ = 25) (fun M22 p22 => ?_)
  obtain ⟨i22, f22, e22⟩ := p22
  rw [b11] at e22
  have b22 : M22 3 = M 3 := by rw [f22 3 (by decide) (by decide), b11]
  have hd22 : rd_D 8 (rd_of M22) := by rw [e22]; exact rd_D.opn hd11
  refine xv_aload_n hX 0 dc_CT_readFrom_25 rfl (rfl : _ = 26) ?_
  refine xv_aload_n hX 1 dc_CT_readFrom_26 rfl (rfl : _ = 27) ?_
  refine xv_callv hX (As := [.ref (Y.2.2.2 1)]) (rest := []) (ct_CT_readHead _ Y M22 c hc i22 (hd22.mono (by decide))) ml_CT_109 li_CT_readHead hc.1 (xk_N (by omega)) rfl rfl rfl (by decide) ⟨by decide, by decide⟩ ⟨Nat.le_refl _, Nat.le_refl _⟩ (Nat.le_of_ble_eq_true rfl) dc_CT_readFrom_27 (rfl : _ = 30) (fun M27 p27 => ?_)
  obtain ⟨i27, f27, s27, h27⟩ := p27
  rw [b22, e22] at h27
  have b27 : M27 3 = M 3 := by rw [f27 3 (by decide) (by decide) (by omega), b22]
  have hd27 : rd_D 8 (rd_of M27) := rs_D h27 (by rw [← e22]; exact hd22)
  have g22 : rd_F M1 M22 := (f5.tr f11).tr f22
  have z27 : M27 c 10 = 0 := by rw [s27 10 (by decide) (by decide) (by decide) (by decide) (by decide), g22 c (by omega) (by omega)]; exact y10
  have l527 : M27 (c + 14) 1 ≤ 3 := by rw [f27 _ (by omega) (by omega) (by omega), g22 _ (by omega) (by omega), y14]; decide
  have l627 : M27 (c + 22) 1 ≤ 3 := by rw [f27 _ (by omega) (by omega) (by omega), g22 _ (by omega) (by omega), y22]; decide
  have hE27 : ct_E M27 c ps_E0 := ct_E00 (by rw [s27 11 (by decide) (by decide) (by decide) (by decide) (by decide), g22 c (by omega) (by omega)]; exact y11) (by rw [s27 12 (by decide) (by decide) (by decide) (by decide) (by decide), g22 c (by omega) (by omega)]; exact y12) (by rw [s27 13 (by decide) (by decide) (by decide) (by decide) (by decide), g22 c (by omega) (by omega)]; exact y13) (by rw [f27 _ (by omega) (by omega) (by omega), g22 _ (by omega) (by omega)]; exact y14) (by rw [f27 _ (by omega) (by omega) (by omega), g22 _ (by omega) (by omega)]; exact y22)
  have F27 : ct_F c M M27 := fun q a1 a2 a3 => by rw [f27 q a1 a2 (by omega), g22 q a1 a2, g1 q (by omega) (by omega) (by omega)]
  refine xv_aload_n hX 1 dc_CT_readFrom_30 rfl (rfl : _ = 31) ?_
  refine xv_sipush hX (v := nI 163) dc_CT_readFrom_31 (by decide) (rfl : _ = 34) ?_
  refine xv_calli hX (As := [.int (nI 163)]) (rest := []) (ct_RD_nextIs _ Y M27 163 i27 (by decide)) ml_CT_113 li_RD_nextIs rfl (by decide) rfl rfl rfl (by decide) ⟨by decide, by decide⟩ ⟨Nat.le_refl _, Nat.le_refl _⟩ (Nat.le_of_ble_eq_true rfl) dc_CT_readFrom_34 (rfl : _ = 37) (fun r34 M34 p34 => ?_)
  rw [b27] at p34
  rw [p34.1, p34.2]
  have hif : (if rd_is (M 3) 163 (rd_of M27) = true then 1 else 0) < 2 := by split <;> decide
  refine xv_if_eq hX (nI_toInt (by omega)) (tgt := 104) (pq := 40) dc_CT_readFrom_37 (by decide) rfl (fun c37 => ?_) (fun c37 => ?_)
  · skip
    have hnx : rd_is (M 3) 163 (rd_of M27) = false := by cases h : rd_is (M 3) 163 (rd_of M27) with
      | false => rfl
      | true => rw [h] at c37; simp at c37
    refine xv_aload_n hX 1 dc_CT_readFrom_104 rfl (rfl : _ = 105) ?_
    refine xv_callv hX (As := []) (rest := []) (ct_RD_close _ Y M27 i27) ml_CT_125 li_RD_close rfl (by decide) rfl rfl rfl (by decide) ⟨by decide, by decide⟩ ⟨Nat.le_refl _, Nat.le_refl _⟩ (Nat.le_of_ble_eq_true rfl) dc_CT_readFrom_105 (rfl : _ = 108) (fun M105 p105 => ?_)
    obtain ⟨i105, f105, e105⟩ := p105
    have hmore : rs_ok (rd_run (ps_more (M 3)) (rd_of M27)) (rd_of M27) (fun E => (ct_E M27 c E ∧ E.1.length ≤ 4) ∧ M27 c 10 = E.1.length) := (rs_moreF (fun i h => rd_of_nil h) hnx).imp (fun E hE => by rw [hE]; exact ⟨⟨hE27, by decide⟩, z27⟩)
    have F9 : ct_F c M27 M105 := ct_F.of f105
    have S9 : ct_S c M27 M105 := ⟨fun j _ _ _ _ => by rw [f105 c (by omega) (by omega)], fun q a1 a2 => f105 q (by omega) (by omega)⟩
    have hb := rs_in (hd11.mono (by decide)) (rs_and h27 hmore)
    rw [← e105] at hb
    have hb := rs_pos (hb.imp (W := fun z => ct_H M105 c z.1 ∧ ct_E M105 c z.2 ∧ M105 c 10 = z.2.1.length ∧ z.2.1.length ≤ 4 ∧ M105 (c + 14) 1 ≤ 3 ∧ M105 (c + 22) 1 ≤ 3) (fun z hz => ⟨⟨by rw [f105 c (by omega) (by omega)]; exact hz.1.1, nm_is_cg (f105 _ (by omega) (by omega)) (f105 _ (by omega) (by omega)) hz.1.2.1, ⟨by rw [f105 c (by omega) (by omega)]; exact hz.1.2.2.1.1, by rw [f105 c (by omega) (by omega)]; exact hz.1.2.2.1.2⟩, nm_is_cg (f105 _ (by omega) (by omega)) (f105 _ (by omega) (by omega)) hz.1.2.2.2.1, by rw [f105 c (by omega) (by omega)]; exact hz.1.2.2.2.2.1, by rw [f105 c (by omega) (by omega)]; exact hz.1.2.2.2.2.2⟩, ct_E_cg hz.2.1.1 (by rw [f105 c (by omega) (by omega)]) (by rw [f105 c (by omega) (by omega)]) (by rw [f105 c (by omega) (by omega)]) hz.2.1.2 l527 l627 (fun q a1 a2 => f105 q (by omega) (by omega)), by rw [f105 c (by omega) (by omega)]; exact hz.2.2, hz.2.1.2, by rw [f105 _ (by omega) (by omega)]; exact l527, by rw [f105 _ (by omega) (by omega)]; exact l627⟩))
    refine xv_aload_n hX 0 dc_CT_readFrom_108 rfl (rfl : _ = 109) ?_
    refine xv_aload_n hX 1 dc_CT_readFrom_109 rfl (rfl : _ = 110) ?_
    refine xv_iload_n hX 2 dc_CT_readFrom_110 rfl (rfl : _ = 111) ?_
    refine xv_calli hX (As := [.int (nI (M11 1 3))]) (rest := [.ref (Y.2.2.2 c)]) (ct_RD_hashSince _ Y M105 (M11 1 3) i105 at11) ml_CT_128 li_RD_hashSince rfl (by decide) rfl rfl rfl (by decide) ⟨by decide, by decide⟩ ⟨Nat.le_refl _, Nat.le_refl _⟩ (Nat.le_of_ble_eq_true rfl) dc_CT_readFrom_111 (rfl : _ = 114) (fun r111 M111 p111 => ?_)
    have b105 : M105 3 = M 3 := by rw [F9 3 (by decide) (by decide) (by omega), b27]
    rw [b105] at p111
    rw [p111.1, p111.2]
    have hcH : ∀ q, q < 6 → (xm_set M105 c 8 (ps_hash (M 3) (M11 1 3) (M105 1 3 - M11 1 3))) q = M105 q := fun q hq => xm_oth (by omega)
    have iH : rd_I (xm_set M105 c 8 (ps_hash (M 3) (M11 1 3) (M105 1 3 - M11 1 3))) := i105.cg hcH
    have oH : rd_of (xm_set M105 c 8 (ps_hash (M 3) (M11 1 3) (M105 1 3 - M11 1 3))) = rd_of M105 := rd_of_cg hcH
    have bH : (xm_set M105 c 8 (ps_hash (M 3) (M11 1 3) (M105 1 3 - M11 1 3))) 3 = M 3 := by rw [hcH 3 (by decide), b105]
    have hd105 : rd_D 9 (rd_of M105) := rs_D hb hd11
    refine xv_puti hX fl_CT_76 rfl hc.1 (xk_N (by omega)) dc_CT_readFrom_114 (rfl : _ = 117) ?_
    refine xv_aload_n hX 0 dc_CT_readFrom_117 rfl (rfl : _ = 118) ?_
    refine xv_aload_n hX 1 dc_CT_readFrom_118 rfl (rfl : _ = 119) ?_
    refine xv_iconst hX (v := nI 0) dc_CT_readFrom_119 (by decide) (rfl : _ = 120) ?_
    refine xv_ldc hX (v := nI 2147483647) kc_CT_132 dc_CT_readFrom_120 (rfl : _ = 122) ?_
    refine xv_calli hX (As := [.int (nI 0), .int (nI 2147483647)]) (rest := [.ref (Y.2.2.2 c)]) (ct_RD_readInteger _ Y (xm_set M105 c 8 (ps_hash (M 3) (M11 1 3) (M105 1 3 - M11 1 3))) 0 2147483647 iH (by decide) (by decide)) ml_CT_133 li_RD_readInteger rfl (by decide) rfl rfl rfl (by decide) ⟨by decide, by decide⟩ ⟨Nat.le_refl _, Nat.le_refl _⟩ (Nat.le_of_ble_eq_true rfl) dc_CT_readFrom_122 (rfl : _ = 125) (fun r122 M122 p122 => ?_)
    obtain ⟨⟨i122, f122, e122⟩, w, z122, hwa, hwb, hwc⟩ := p122
    rw [z122]
    rw [oH, bH] at e122 hwc
    have h122 := rs_int (hd105.mono (by decide)) e122 hwc
    have hcS : ∀ q, q < 6 → (xm_set M122 c 7 w) q = M122 q := fun q hq => xm_oth (by omega)
    have iS : rd_I (xm_set M122 c 7 w) := i122.cg hcS
    have oS : rd_of (xm_set M122 c 7 w) = rd_of M122 := rd_of_cg hcS
    refine xv_puti hX fl_CT_73 rfl hc.1 (xk_N (by omega)) dc_CT_readFrom_125 (rfl : _ = 128) ?_
    refine xv_aload_n hX 1 dc_CT_readFrom_128 rfl (rfl : _ = 129) ?_
    refine xv_callv hX (As := []) (rest := []) (ct_RD_close _ Y (xm_set M122 c 7 w) iS) ml_CT_125 li_RD_close rfl (by decide) rfl rfl rfl (by decide) ⟨by decide, by decide⟩ ⟨Nat.le_refl _, Nat.le_refl _⟩ (Nat.le_of_ble_eq_true rfl) dc_CT_readFrom_129 (rfl : _ = 132) (fun M129 p129 => ?_)
    obtain ⟨i129, f129, e129⟩ := p129
    rw [oS] at e129
    have hcrt := rs_and hb h122
    rw [e11] at hcrt
    have hcrt := rs_in (hd5.mono (by decide)) hcrt
    rw [← e129] at hcrt
    have hfin := rs_cert hcrt
    refine xv_aload_n hX 1 dc_CT_readFrom_132 rfl (rfl : _ = 133) ?_
    refine xv_calli hX (As := []) (rest := []) (ct_RD_isAtEndOfRow _ Y M129 i129) ml_CT_137 li_RD_isAtEndOfRow rfl (by decide) rfl rfl rfl (by decide) ⟨by decide, by decide⟩ ⟨Nat.le_refl _, Nat.le_refl _⟩ (Nat.le_of_ble_eq_true rfl) dc_CT_readFrom_133 (rfl : _ = 136) (fun r133 M133 p133 => ?_)
    rw [p133.1, p133.2]
    have hif9 : (if rd_end (rd_of M129) = true then 1 else 0) < 2 := by split <;> decide
    refine xv_reti hX hR (xi_z hif9) dc_CT_readFrom_136 ?_
    have F129 : ct_F c M M129 := fun q a1 a2 a3 => by rw [f129 q a1 a2, xm_oth (by omega), f122 q a1 a2, xm_oth (by omega), F9 q a1 a2 a3, F27 q a1 a2 a3]
    have u129 : ∀ j, j ≠ 7 → j ≠ 8 → M129 c j = M105 c j := fun j a1 a2 => by rw [f129 c (by omega) (by omega), xm_nk a1, f122 c (by omega) (by omega), xm_nk a2]
    have v129 : ∀ q, q ≠ 1 → q ≠ 4 → q ≠ c → M129 q = M105 q := fun q a1 a2 a3 => by rw [f129 q a1 a2, xm_oth a3, f122 q a1 a2, xm_oth a3]
    refine ⟨i129, F129, _, rfl, hif9, fun ht => ?_, fun ht => ?_⟩
    · rcases hfin with ⟨-, C, hC, ⟨⟨hV1, hV2, hV3, hle9, hl59, hl69⟩, ⟨L1, hL1⟩, ⟨L2, hL2⟩⟩, hw9⟩ | ⟨h0, -⟩
      · refine ⟨C, hC, ?_, ?_, ?_, ?_, ?_⟩
        · exact ⟨by rw [u129 0 (by decide) (by decide)]; exact hV1.1, nm_is_cg (v129 _ (by omega) (by omega) (by omega)) (v129 _ (by omega) (by omega) (by omega)) hV1.2.1, ⟨by rw [u129 2 (by decide) (by decide)]; exact hV1.2.2.1.1, by rw [u129 3 (by decide) (by decide)]; exact hV1.2.2.1.2⟩, nm_is_cg (v129 _ (by omega) (by omega) (by omega)) (v129 _ (by omega) (by omega) (by omega)) hV1.2.2.2.1, by rw [u129 5 (by decide) (by decide)]; exact hV1.2.2.2.2.1, by rw [u129 6 (by decide) (by decide)]; exact hV1.2.2.2.2.2⟩
        · exact ct_E_cg hV2 (u129 11 (by decide) (by decide)) (u129 12 (by decide) (by decide)) (u129 13 (by decide) (by decide)) hle9 hl59 hl69 (fun q a1 a2 => v129 q (by omega) (by omega) (by omega))
        · rw [u129 10 (by decide) (by decide)]; exact hV3
        · rw [f129 c (by omega) (by omega), xm_nk (by decide), f122 c (by omega) (by omega), xm_eq]
          rw [← e11] at hL1
          rw [rd_of_at hL1, rd_of_at hL2]
        · rw [f129 c (by omega) (by omega), xm_eq]; exact hw9.symm
      · rw [h0] at ht
        exact absurd ht (by decide)
    · rcases hfin with ⟨h0, -⟩ | ⟨-, hC⟩
      · rw [h0] at ht
        exact absurd ht (by decide)
      · exact hC
  · skip
    have hnx : rd_is (M 3) 163 (rd_of M27) = true := by cases h : rd_is (M 3) 163 (rd_of M27) with
      | true => rfl
      | false => rw [h] at c37; simp at c37
    refine xv_aload_n hX 1 dc_CT_readFrom_40 rfl (rfl : _ = 41) ?_
    refine xv_sipush hX (v := nI 163) dc_CT_readFrom_41 (by decide) (rfl : _ = 44) ?_
    refine xv_callv hX (As := [.int (nI 163)]) (rest := []) (ct_RD_open _ Y M27 163 i27 (by decide)) ml_CT_102 li_RD_open rfl (by decide) rfl rfl rfl (by decide) ⟨by decide, by decide⟩ ⟨Nat.le_refl _, Nat.le_refl _⟩ (Nat.le_of_ble_eq_true rfl) dc_CT_readFrom_44 (rfl : _ = 47) (fun M44 p44 => ?_)
    obtain ⟨i44, f44, e44⟩ := p44
    rw [b27] at e44
    have b44 : M44 3 = M 3 := by rw [f44 3 (by decide) (by decide), b27]
    have hd44 : rd_D 7 (rd_of M44) := by rw [e44]; exact rd_D.opn hd27
    refine xv_aload_n hX 1 dc_CT_readFrom_47 rfl (rfl : _ = 48) ?_
    refine xv_bipush hX (v := nI 48) dc_CT_readFrom_48 (by decide) (rfl : _ = 50) ?_
    refine xv_callv hX (As := [.int (nI 48)]) (rest := []) (ct_RD_open _ Y M44 48 i44 (by decide)) ml_CT_102 li_RD_open rfl (by decide) rfl rfl rfl (by decide) ⟨by decide, by decide⟩ ⟨Nat.le_refl _, Nat.le_refl _⟩ (Nat.le_of_ble_eq_true rfl) dc_CT_readFrom_50 (rfl : _ = 53) (fun M50 p50 => ?_)
    obtain ⟨i50, f50, e50⟩ := p50
    rw [b44] at e50
    have b50 : M50 3 = M 3 := by rw [f50 3 (by decide) (by decide), b44]
    have hd50 : rd_D 6 (rd_of M50) := by rw [e50]; exact rd_D.opn hd44
    have g50 : rd_F M27 M50 := f44.tr f50
    have lp53 : ∀ (n : Nat) (Mk : xm_M) (k : Nat) (E : ps_E) (hk : k ≤ 3) (hz : Mk c 10 = k) (hIk : rd_I Mk) (hdk : rd_D 6 (rd_of Mk)) (hF : ct_F c M27 Mk) (hS : ct_S c M27 Mk) (hnum : ∀ j, j < k → Mk (c + 6 + 2 * j) 0 < 256) (hl5 : Mk (c + 14) 1 ≤ 3) (hl6 : Mk (c + 22) 1 ≤ 3) (hE : rd_of Mk ≠ none → ct_E Mk c E ∧ E.1.length = k) (hXE : (rd_run (ps_exts (M 3) 3 ps_E0) (rd_of M50)) = rd_run (ps_exts (M 3) (3 - k) E) (rd_of Mk)), 3 - k < n → xv_V X Y 3 0 0 xw_lk xw_N Mk 53 [(0, .ref (Y.2.2.2 c)), (1, .ref (Y.2.2.2 1)), (2, .int (nI (M11 1 3)))] [] := by
      intro n53
      induction n53 with
      | zero => intro Mk k E hk hz hIk hdk hF hS hnum hl5 hl6 hE hXE hm53; exact absurd hm53 (Nat.not_lt_zero _)
      | succ n53 ih53 =>
        intro Mk k E hk hz hIk hdk hF hS hnum hl5 hl6 hE hXE hm53
        refine xv_aload_n hX 0 dc_CT_readFrom_53 rfl (rfl : _ = 54) ?_
        refine xv_aload_n hX 1 dc_CT_readFrom_54 rfl (rfl : _ = 55) ?_
        refine xv_aload_n hX 0 dc_CT_readFrom_55 rfl (rfl : _ = 56) ?_
        refine xv_getr hX fl_CT_23 rfl hc.1 (xk_N (by omega)) hc.2.2.2.1.1 dc_CT_readFrom_56 (rfl : _ = 59) ?_
        refine xv_aload_n hX 0 dc_CT_readFrom_59 rfl (rfl : _ = 60) ?_
        refine xv_geti hX fl_CT_41 rfl hc.1 (xk_N (by omega)) (v := Mk c 10) rfl dc_CT_readFrom_60 (rfl : _ = 63) ?_
        have bk : Mk 3 = M 3 := by rw [hF 3 (by decide) (by decide) (by omega), b27]
        refine xv_aald hX hc.2.2.2.1.2.1 (C := xw_A4) rfl (xk_N (by omega)) (by omega) (by decide) (v := c + 6 + 2 * (Mk c 10)) ((hc.2.2.2.1.2.2 _ (by omega)).1) dc_CT_readFrom_63 (rfl : _ = 64) ?_
        rw [hz]
        refine xv_callv hX (As := [.ref (Y.2.2.2 1), .ref (Y.2.2.2 (c + 6 + 2 * k))]) (rest := []) (ct_CT_readExtension _ Y Mk c k E hc (by omega) hIk hdk hz hnum hl5 hl6 hE) ml_CT_117 li_CT_readExtension hc.1 (xk_N (by omega)) rfl rfl rfl (by decide) ⟨by decide, by decide⟩ ⟨Nat.le_refl _, Nat.le_refl _⟩ (Nat.le_of_ble_eq_true rfl) dc_CT_readFrom_64 (rfl : _ = 67) (fun M64 p64 => ?_)
        obtain ⟨i64, f64, z64, n64, s64, ⟨l564, l664⟩, h64⟩ := p64
        rw [bk] at h64
        have b64 : M64 3 = M 3 := by rw [f64 3 (by decide) (by decide) (by omega), bk]
        have hcI : ∀ q, q < 6 → (xm_set M64 c 10 (M64 c 10 + 1)) q = M64 q := fun q hq => xm_oth (by omega)
        have iI : rd_I (xm_set M64 c 10 (M64 c 10 + 1)) := i64.cg hcI
        have oI : rd_of (xm_set M64 c 10 (M64 c 10 + 1)) = rd_of M64 := rd_of_cg hcI
        have hd64 : rd_D 6 (rd_of M64) := rs_D h64 hdk
        have hEI : ∀ E', ct_E M64 c E' ∧ E'.1.length = k + 1 → ct_E (xm_set M64 c 10 (M64 c 10 + 1)) c E' ∧ E'.1.length = k + 1 := fun E' hq => ⟨ct_E_cg hq.1 (xm_nk (by decide)) (xm_nk (by decide)) (xm_nk (by decide)) (by omega) l564 l664 (fun q a1 a2 => xm_oth (by omega)), hq.2⟩
        have FI : ct_F c M27 (xm_set M64 c 10 (M64 c 10 + 1)) := fun q a1 a2 a3 => by rw [xm_oth (by omega), f64 q a1 a2 a3]; exact hF q a1 a2 a3
        have SI : ct_S c M27 (xm_set M64 c 10 (M64 c 10 + 1)) := ⟨fun j a1 a2 a3 a4 => by rw [xm_nk a1]; exact (hS.tr s64).1 j a1 a2 a3 a4, fun q a1 a2 => by rw [xm_oth (by omega)]; exact (hS.tr s64).2 q a1 a2⟩
        refine xv_aload_n hX 0 dc_CT_readFrom_67 rfl (rfl : _ = 68) ?_
        refine xv_dup hX dc_CT_readFrom_68 rfl (rfl : _ = 69) ?_
        refine xv_geti hX fl_CT_41 rfl hc.1 (xk_N (by omega)) (v := M64 c 10) rfl dc_CT_readFrom_69 (rfl : _ = 72) ?_
        refine xv_iconst hX (v := nI 1) dc_CT_readFrom_72 (by decide) (rfl : _ = 73) ?_
        refine xv_iadd hX dc_CT_readFrom_73 (nI_add (M64 c 10) 1) (rfl : _ = 74) ?_
        refine xv_puti hX fl_CT_41 rfl hc.1 (xk_N (by omega)) dc_CT_readFrom_74 (rfl : _ = 77) ?_
        refine xv_aload_n hX 1 dc_CT_readFrom_77 rfl (rfl : _ = 78) ?_
        refine xv_calli hX (As := []) (rest := []) (ct_RD_remaining _ Y (xm_set M64 c 10 (M64 c 10 + 1)) iI) ml_CT_121 li_RD_remaining rfl (by decide) rfl rfl rfl (by decide) ⟨by decide, by decide⟩ ⟨Nat.le_refl _, Nat.le_refl _⟩ (Nat.le_of_ble_eq_true rfl) dc_CT_readFrom_78 (rfl : _ = 81) (fun r78 M78 p78 => ?_)
        rw [p78.1, p78.2]
        have hn := rd_rem_le iI
        refine xv_if_le hX (nI_toInt (by omega)) (tgt := 96) (pq := 84) dc_CT_readFrom_81 (by decide) rfl (fun c81 => ?_) (fun c81 => ?_)
        · skip
          refine xv_aload_n hX 1 dc_CT_readFrom_96 rfl (rfl : _ = 97) ?_
          refine xv_callv hX (As := []) (rest := []) (ct_RD_close _ Y (xm_set M64 c 10 (M64 c 10 + 1)) iI) ml_CT_125 li_RD_close rfl (by decide) rfl rfl rfl (by decide) ⟨by decide, by decide⟩ ⟨Nat.le_refl _, Nat.le_refl _⟩ (Nat.le_of_ble_eq_true rfl) dc_CT_readFrom_97 (rfl : _ = 100) (fun M97 p97 => ?_)
          obtain ⟨i97, f97, e97⟩ := p97
          refine xv_aload_n hX 1 dc_CT_readFrom_100 rfl (rfl : _ = 101) ?_
          refine xv_callv hX (As := []) (rest := []) (ct_RD_close _ Y M97 i97) ml_CT_125 li_RD_close rfl (by decide) rfl rfl rfl (by decide) ⟨by decide, by decide⟩ ⟨Nat.le_refl _, Nat.le_refl _⟩ (Nat.le_of_ble_eq_true rfl) dc_CT_readFrom_101 (rfl : _ = 104) (fun M101 p101 => ?_)
          obtain ⟨i101, f101, e101⟩ := p101
          refine xv_aload_n hX 1 dc_CT_readFrom_104 rfl (rfl : _ = 105) ?_
          refine xv_callv hX (As := []) (rest := []) (ct_RD_close _ Y M101 i101) ml_CT_125 li_RD_close rfl (by decide) rfl rfl rfl (by decide) ⟨by decide, by decide⟩ ⟨Nat.le_refl _, Nat.le_refl _⟩ (Nat.le_of_ble_eq_true rfl) dc_CT_readFrom_105 (rfl : _ = 108) (fun M105 p105 => ?_)
          obtain ⟨i105, f105, e105⟩ := p105
          have g9 : rd_F (xm_set M64 c 10 (M64 c 10 + 1)) M105 := (f97.tr f101).tr f105
          have hx0 := rs_exts0 (k := k) (by omega) h64 (by rw [← oI]; omega)
          rw [← hXE, e50] at hx0
          have hx1 := rs_in (hd44.mono (by decide)) hx0
          rw [← oI, ← e97, e44] at hx1
          have hx2 := rs_in (hd27.mono (by decide)) hx1
          rw [← e101] at hx2
          have hmore := rs_moreT hnx hx2
          have F9 : ct_F c M27 M105 := FI.tr (ct_F.of g9)
          have S9 : ct_S c M27 M105 := ⟨fun j a1 a2 a3 a4 => by rw [g9 c (by omega) (by omega)]; exact SI.1 j a1 a2 a3 a4, fun q a1 a2 => by rw [g9 q (by omega) (by omega)]; exact SI.2 q a1 a2⟩
          have hb := rs_in (hd11.mono (by decide)) (rs_and h27 hmore)
          rw [← e105] at hb
          have hb := rs_pos (hb.imp (W := fun z => ct_H M105 c z.1 ∧ ct_E M105 c z.2 ∧ M105 c 10 = z.2.1.length ∧ z.2.1.length ≤ 4 ∧ M105 (c + 14) 1 ≤ 3 ∧ M105 (c + 22) 1 ≤ 3) (fun z hz => ⟨⟨by rw [S9.1 0 (by decide) (by decide) (by decide) (by decide)]; exact hz.1.1, nm_is_cg (S9.2 _ (by omega) (by omega)) (S9.2 _ (by omega) (by omega)) hz.1.2.1, ⟨by rw [S9.1 2 (by decide) (by decide) (by decide) (by decide)]; exact hz.1.2.2.1.1, by rw [S9.1 3 (by decide) (by decide) (by decide) (by decide)]; exact hz.1.2.2.1.2⟩, nm_is_cg (S9.2 _ (by omega) (by omega)) (S9.2 _ (by omega) (by omega)) hz.1.2.2.2.1, by rw [S9.1 5 (by decide) (by decide) (by decide) (by decide)]; exact hz.1.2.2.2.2.1, by rw [S9.1 6 (by decide) (by decide) (by decide) (by decide)]; exact hz.1.2.2.2.2.2⟩, ct_E_cg (hEI _ hz.2).1 (by rw [g9 c (by omega) (by omega)]) (by rw [g9 c (by omega) (by omega)]) (by rw [g9 c (by omega) (by omega)]) (by have := hz.2.2; omega) (by rw [xm_oth (by omega)]; exact l564) (by rw [xm_oth (by omega)]; exact l664) (fun q a1 a2 => g9 q (by omega) (by omega)), by rw [g9 c (by omega) (by omega), xm_eq, z64]; exact hz.2.2.symm, by have := hz.2.2; omega, by rw [g9 _ (by omega) (by omega), xm_oth (by omega)]; exact l564, by rw [g9 _ (by omega) (by omega), xm_oth (by omega)]; exact l664⟩))
          refine xv_aload_n hX 0 dc_CT_readFrom_108 rfl (rfl : _ = 109) ?_
          refine xv_aload_n hX 1 dc_CT_readFrom_109 rfl (rfl : _ = 110) ?_
          refine xv_iload_n hX 2 dc_CT_readFrom_110 rfl (rfl : _ = 111) ?_
          refine xv_calli hX (As := [.int (nI (M11 1 3))]) (rest := [.ref (Y.2.2.2 c)]) (ct_RD_hashSince _ Y M105 (M11 1 3) i105 at11) ml_CT_128 li_RD_hashSince rfl (by decide) rfl rfl rfl (by decide) ⟨by decide, by decide⟩ ⟨Nat.le_refl _, Nat.le_refl _⟩ (Nat.le_of_ble_eq_true rfl) dc_CT_readFrom_111 (rfl : _ = 114) (fun r111 M111 p111 => ?_)
          have b105 : M105 3 = M 3 := by rw [F9 3 (by decide) (by decide) (by omega), b27]
          rw [b105] at p111
          rw [p111.1, p111.2]
          have hcH : ∀ q, q < 6 → (xm_set M105 c 8 (ps_hash (M 3) (M11 1 3) (M105 1 3 - M11 1 3))) q = M105 q := fun q hq => xm_oth (by omega)
          have iH : rd_I (xm_set M105 c 8 (ps_hash (M 3) (M11 1 3) (M105 1 3 - M11 1 3))) := i105.cg hcH
          have oH : rd_of (xm_set M105 c 8 (ps_hash (M 3) (M11 1 3) (M105 1 3 - M11 1 3))) = rd_of M105 := rd_of_cg hcH
          have bH : (xm_set M105 c 8 (ps_hash (M 3) (M11 1 3) (M105 1 3 - M11 1 3))) 3 = M 3 := by rw [hcH 3 (by decide), b105]
          have hd105 : rd_D 9 (rd_of M105) := rs_D hb hd11
          refine xv_puti hX fl_CT_76 rfl hc.1 (xk_N (by omega)) dc_CT_readFrom_114 (rfl : _ = 117) ?_
          refine xv_aload_n hX 0 dc_CT_readFrom_117 rfl (rfl : _ = 118) ?_
          refine xv_aload_n hX 1 dc_CT_readFrom_118 rfl (rfl : _ = 119) ?_
          refine xv_iconst hX (v := nI 0) dc_CT_readFrom_119 (by decide) (rfl : _ = 120) ?_
          refine xv_ldc hX (v := nI 2147483647) kc_CT_132 dc_CT_readFrom_120 (rfl : _ = 122) ?_
          refine xv_calli hX (As := [.int (nI 0), .int (nI 2147483647)]) (rest := [.ref (Y.2.2.2 c)]) (ct_RD_readInteger _ Y (xm_set M105 c 8 (ps_hash (M 3) (M11 1 3) (M105 1 3 - M11 1 3))) 0 2147483647 iH (by decide) (by decide)) ml_CT_133 li_RD_readInteger rfl (by decide) rfl rfl rfl (by decide) ⟨by decide, by decide⟩ ⟨Nat.le_refl _, Nat.le_refl _⟩ (Nat.le_of_ble_eq_true rfl) dc_CT_readFrom_122 (rfl : _ = 125) (fun r122 M122 p122 => ?_)
          obtain ⟨⟨i122, f122, e122⟩, w, z122, hwa, hwb, hwc⟩ := p122
          rw [z122]
          rw [oH, bH] at e122 hwc
          have h122 := rs_int (hd105.mono (by decide)) e122 hwc
          have hcS : ∀ q, q < 6 → (xm_set M122 c 7 w) q = M122 q := fun q hq => xm_oth (by omega)
          have iS : rd_I (xm_set M122 c 7 w) := i122.cg hcS
          have oS : rd_of (xm_set M122 c 7 w) = rd_of M122 := rd_of_cg hcS
          refine xv_puti hX fl_CT_73 rfl hc.1 (xk_N (by omega)) dc_CT_readFrom_125 (rfl : _ = 128) ?_
          refine xv_aload_n hX 1 dc_CT_readFrom_128 rfl (rfl : _ = 129) ?_
          refine xv_callv hX (As := []) (rest := []) (ct_RD_close _ Y (xm_set M122 c 7 w) iS) ml_CT_125 li_RD_close rfl (by decide) rfl rfl rfl (by decide) ⟨by decide, by decide⟩ ⟨Nat.le_refl _, Nat.le_refl _⟩ (Nat.le_of_ble_eq_true rfl) dc_CT_readFrom_129 (rfl : _ = 132) (fun M129 p129 => ?_)
          obtain ⟨i129, f129, e129⟩ := p129
          rw [oS] at e129
          have hcrt := rs_and hb h122
          rw [e11] at hcrt
          have hcrt := rs_in (hd5.mono (by decide)) hcrt
          rw [← e129] at hcrt
          have hfin := rs_cert hcrt
          refine xv_aload_n hX 1 dc_CT_readFrom_132 rfl (rfl : _ = 133) ?_
          refine xv_calli hX (As := []) (rest := []) (ct_RD_isAtEndOfRow _ Y M129 i129) ml_CT_137 li_RD_isAtEndOfRow rfl (by decide) rfl rfl rfl (by decide) ⟨by decide, by decide⟩ ⟨Nat.le_refl _, Nat.le_refl _⟩ (Nat.le_of_ble_eq_true rfl) dc_CT_readFrom_133 (rfl : _ = 136) (fun r133 M133 p133 => ?_)
          rw [p133.1, p133.2]
          have hif9 : (if rd_end (rd_of M129) = true then 1 else 0) < 2 := by split <;> decide
          refine xv_reti hX hR (xi_z hif9) dc_CT_readFrom_136 ?_
          have F129 : ct_F c M M129 := fun q a1 a2 a3 => by rw [f129 q a1 a2, xm_oth (by omega), f122 q a1 a2, xm_oth (by omega), F9 q a1 a2 a3, F27 q a1 a2 a3]
          have u129 : ∀ j, j ≠ 7 → j ≠ 8 → M129 c j = M105 c j := fun j a1 a2 => by rw [f129 c (by omega) (by omega), xm_nk a1, f122 c (by omega) (by omega), xm_nk a2]
          have v129 : ∀ q, q ≠ 1 → q ≠ 4 → q ≠ c → M129 q = M105 q := fun q a1 a2 a3 => by rw [f129 q a1 a2, xm_oth a3, f122 q a1 a2, xm_oth a3]
          refine ⟨i129, F129, _, rfl, hif9, fun ht => ?_, fun ht => ?_⟩
          · rcases hfin with ⟨-, C, hC, ⟨⟨hV1, hV2, hV3, hle9, hl59, hl69⟩, ⟨L1, hL1⟩, ⟨L2, hL2⟩⟩, hw9⟩ | ⟨h0, -⟩
            · refine ⟨C, hC, ?_, ?_, ?_, ?_, ?_⟩
              · exact ⟨by rw [u129 0 (by decide) (by decide)]; exact hV1.1, nm_is_cg (v129 _ (by omega) (by omega) (by omega)) (v129 _ (by omega) (by omega) (by omega)) hV1.2.1, ⟨by rw [u129 2 (by decide) (by decide)]; exact hV1.2.2.1.1, by rw [u129 3 (by decide) (by decide)]; exact hV1.2.2.1.2⟩, nm_is_cg (v129 _ (by omega) (by omega) (by omega)) (v129 _ (by omega) (by omega) (by omega)) hV1.2.2.2.1, by rw [u129 5 (by decide) (by decide)]; exact hV1.2.2.2.2.1, by rw [u129 6 (by decide) (by decide)]; exact hV1.2.2.2.2.2⟩
              · exact ct_E_cg hV2 (u129 11 (by decide) (by decide)) (u129 12 (by decide) (by decide)) (u129 13 (by decide) (by decide)) hle9 hl59 hl69 (fun q a1 a2 => v129 q (by omega) (by omega) (by omega))
              · rw [u129 10 (by decide) (by decide)]; exact hV3
              · rw [f129 c (by omega) (by omega), xm_nk (by decide), f122 c (by omega) (by omega), xm_eq]
                rw [← e11] at hL1
                rw [rd_of_at hL1, rd_of_at hL2]
              · rw [f129 c (by omega) (by omega), xm_eq]; exact hw9.symm
            · rw [h0] at ht
              exact absurd ht (by decide)
          · rcases hfin with ⟨h0, -⟩ | ⟨-, hC⟩
            · rw [h0] at ht
              exact absurd ht (by decide)
            · exact hC
        · skip
          refine xv_aload_n hX 0 dc_CT_readFrom_84 rfl (rfl : _ = 85) ?_
          refine xv_geti hX fl_CT_41 rfl hc.1 (xk_N (by omega)) (v := M64 c 10 + 1) xm_eq dc_CT_readFrom_85 (rfl : _ = 88) ?_
          refine xv_aload_n hX 0 dc_CT_readFrom_88 rfl (rfl : _ = 89) ?_
          refine xv_getr hX fl_CT_23 rfl hc.1 (xk_N (by omega)) hc.2.2.2.1.1 dc_CT_readFrom_89 (rfl : _ = 92) ?_
          refine xv_alen hX (n := 4) hc.2.2.2.1.2.1 ⟨_, rfl⟩ (xk_N (by omega)) dc_CT_readFrom_92 (rfl : _ = 93) ?_
          refine xv_icmp_lt hX (nI_toInt (by omega)) (show (nI 4).toInt = 4 by decide) (tgt := 53) (pq := 96) dc_CT_readFrom_93 (by decide) rfl (fun c93 => ?_) (fun c93 => ?_)
          · skip
            obtain ⟨E9, hE9, hX9⟩ := rs_exts1 (k := k) (by omega) h64 (by rw [← oI]; omega)
            refine xv_sub (L' := [(0, .ref (Y.2.2.2 c)), (1, .ref (Y.2.2.2 1)), (2, .int (nI (M11 1 3)))]) [0, 1, 2] rfl ?_
            exact ih53 (xm_set M64 c 10 (M64 c 10 + 1)) (k + 1) E9 (by omega) (by rw [xm_eq, z64]) iI (by rw [oI]; exact hd64) FI SI (fun j hj => by rw [xm_oth (by omega)]; exact n64 j (by omega)) (by rw [xm_oth (by omega)]; exact l564) (by rw [xm_oth (by omega)]; exact l664) (fun _ => hEI _ hE9) (by rw [hXE, oI]; exact hX9) (by omega)
          · skip
            refine xv_aload_n hX 1 dc_CT_readFrom_96 rfl (rfl : _ = 97) ?_
            refine xv_callv hX (As := []) (rest := []) (ct_RD_close _ Y (xm_set M64 c 10 (M64 c 10 + 1)) iI) ml_CT_125 li_RD_close rfl (by decide) rfl rfl rfl (by decide) ⟨by decide, by decide⟩ ⟨Nat.le_refl _, Nat.le_refl _⟩ (Nat.le_of_ble_eq_true rfl) dc_CT_readFrom_97 (rfl : _ = 100) (fun M97 p97 => ?_)
            obtain ⟨i97, f97, e97⟩ := p97
            refine xv_aload_n hX 1 dc_CT_readFrom_100 rfl (rfl : _ = 101) ?_
            refine xv_callv hX (As := []) (rest := []) (ct_RD_close _ Y M97 i97) ml_CT_125 li_RD_close rfl (by decide) rfl rfl rfl (by decide) ⟨by decide, by decide⟩ ⟨Nat.le_refl _, Nat.le_refl _⟩ (Nat.le_of_ble_eq_true rfl) dc_CT_readFrom_101 (rfl : _ = 104) (fun M101 p101 => ?_)
            obtain ⟨i101, f101, e101⟩ := p101
            refine xv_aload_n hX 1 dc_CT_readFrom_104 rfl (rfl : _ = 105) ?_
            refine xv_callv hX (As := []) (rest := []) (ct_RD_close _ Y M101 i101) ml_CT_125 li_RD_close rfl (by decide) rfl rfl rfl (by decide) ⟨by decide, by decide⟩ ⟨Nat.le_refl _, Nat.le_refl _⟩ (Nat.le_of_ble_eq_true rfl) dc_CT_readFrom_105 (rfl : _ = 108) (fun M105 p105 => ?_)
            obtain ⟨i105, f105, e105⟩ := p105
            have g9 : rd_F (xm_set M64 c 10 (M64 c 10 + 1)) M105 := (f97.tr f101).tr f105
            have hx0 := rs_exts0 (k := k) (by omega) h64 (by rw [← oI]; omega)
            rw [← hXE, e50] at hx0
            have hx1 := rs_in (hd44.mono (by decide)) hx0
            rw [← oI, ← e97, e44] at hx1
            have hx2 := rs_in (hd27.mono (by decide)) hx1
            rw [← e101] at hx2
            have hmore := rs_moreT hnx hx2
            have F9 : ct_F c M27 M105 := FI.tr (ct_F.of g9)
            have S9 : ct_S c M27 M105 := ⟨fun j a1 a2 a3 a4 => by rw [g9 c (by omega) (by omega)]; exact SI.1 j a1 a2 a3 a4, fun q a1 a2 => by rw [g9 q (by omega) (by omega)]; exact SI.2 q a1 a2⟩
            have hb := rs_in (hd11.mono (by decide)) (rs_and h27 hmore)
            rw [← e105] at hb
            have hb := rs_pos (hb.imp (W := fun z => ct_H M105 c z.1 ∧ ct_E M105 c z.2 ∧ M105 c 10 = z.2.1.length ∧ z.2.1.length ≤ 4 ∧ M105 (c + 14) 1 ≤ 3 ∧ M105 (c + 22) 1 ≤ 3) (fun z hz => ⟨⟨by rw [S9.1 0 (by decide) (by decide) (by decide) (by decide)]; exact hz.1.1, nm_is_cg (S9.2 _ (by omega) (by omega)) (S9.2 _ (by omega) (by omega)) hz.1.2.1, ⟨by rw [S9.1 2 (by decide) (by decide) (by decide) (by decide)]; exact hz.1.2.2.1.1, by rw [S9.1 3 (by decide) (by decide) (by decide) (by decide)]; exact hz.1.2.2.1.2⟩, nm_is_cg (S9.2 _ (by omega) (by omega)) (S9.2 _ (by omega) (by omega)) hz.1.2.2.2.1, by rw [S9.1 5 (by decide) (by decide) (by decide) (by decide)]; exact hz.1.2.2.2.2.1, by rw [S9.1 6 (by decide) (by decide) (by decide) (by decide)]; exact hz.1.2.2.2.2.2⟩, ct_E_cg (hEI _ hz.2).1 (by rw [g9 c (by omega) (by omega)]) (by rw [g9 c (by omega) (by omega)]) (by rw [g9 c (by omega) (by omega)]) (by have := hz.2.2; omega) (by rw [xm_oth (by omega)]; exact l564) (by rw [xm_oth (by omega)]; exact l664) (fun q a1 a2 => g9 q (by omega) (by omega)), by rw [g9 c (by omega) (by omega), xm_eq, z64]; exact hz.2.2.symm, by have := hz.2.2; omega, by rw [g9 _ (by omega) (by omega), xm_oth (by omega)]; exact l564, by rw [g9 _ (by omega) (by omega), xm_oth (by omega)]; exact l664⟩))
            refine xv_aload_n hX 0 dc_CT_readFrom_108 rfl (rfl : _ = 109) ?_
            refine xv_aload_n hX 1 dc_CT_readFrom_109 rfl (rfl : _ = 110) ?_
            refine xv_iload_n hX 2 dc_CT_readFrom_110 rfl (rfl : _ = 111) ?_
            refine xv_calli hX (As := [.int (nI (M11 1 3))]) (rest := [.ref (Y.2.2.2 c)]) (ct_RD_hashSince _ Y M105 (M11 1 3) i105 at11) ml_CT_128 li_RD_hashSince rfl (by decide) rfl rfl rfl (by decide) ⟨by decide, by decide⟩ ⟨Nat.le_refl _, Nat.le_refl _⟩ (Nat.le_of_ble_eq_true rfl) dc_CT_readFrom_111 (rfl : _ = 114) (fun r111 M111 p111 => ?_)
            have b105 : M105 3 = M 3 := by rw [F9 3 (by decide) (by decide) (by omega), b27]
            rw [b105] at p111
            rw [p111.1, p111.2]
            have hcH : ∀ q, q < 6 → (xm_set M105 c 8 (ps_hash (M 3) (M11 1 3) (M105 1 3 - M11 1 3))) q = M105 q := fun q hq => xm_oth (by omega)
            have iH : rd_I (xm_set M105 c 8 (ps_hash (M 3) (M11 1 3) (M105 1 3 - M11 1 3))) := i105.cg hcH
            have oH : rd_of (xm_set M105 c 8 (ps_hash (M 3) (M11 1 3) (M105 1 3 - M11 1 3))) = rd_of M105 := rd_of_cg hcH
            have bH : (xm_set M105 c 8 (ps_hash (M 3) (M11 1 3) (M105 1 3 - M11 1 3))) 3 = M 3 := by rw [hcH 3 (by decide), b105]
            have hd105 : rd_D 9 (rd_of M105) := rs_D hb hd11
            refine xv_puti hX fl_CT_76 rfl hc.1 (xk_N (by omega)) dc_CT_readFrom_114 (rfl : _ = 117) ?_
            refine xv_aload_n hX 0 dc_CT_readFrom_117 rfl (rfl : _ = 118) ?_
            refine xv_aload_n hX 1 dc_CT_readFrom_118 rfl (rfl : _ = 119) ?_
            refine xv_iconst hX (v := nI 0) dc_CT_readFrom_119 (by decide) (rfl : _ = 120) ?_
            refine xv_ldc hX (v := nI 2147483647) kc_CT_132 dc_CT_readFrom_120 (rfl : _ = 122) ?_
            refine xv_calli hX (As := [.int (nI 0), .int (nI 2147483647)]) (rest := [.ref (Y.2.2.2 c)]) (ct_RD_readInteger _ Y (xm_set M105 c 8 (ps_hash (M 3) (M11 1 3) (M105 1 3 - M11 1 3))) 0 2147483647 iH (by decide) (by decide)) ml_CT_133 li_RD_readInteger rfl (by decide) rfl rfl rfl (by decide) ⟨by decide, by decide⟩ ⟨Nat.le_refl _, Nat.le_refl _⟩ (Nat.le_of_ble_eq_true rfl) dc_CT_readFrom_122 (rfl : _ = 125) (fun r122 M122 p122 => ?_)
            obtain ⟨⟨i122, f122, e122⟩, w, z122, hwa, hwb, hwc⟩ := p122
            rw [z122]
            rw [oH, bH] at e122 hwc
            have h122 := rs_int (hd105.mono (by decide)) e122 hwc
            have hcS : ∀ q, q < 6 → (xm_set M122 c 7 w) q = M122 q := fun q hq => xm_oth (by omega)
            have iS : rd_I (xm_set M122 c 7 w) := i122.cg hcS
            have oS : rd_of (xm_set M122 c 7 w) = rd_of M122 := rd_of_cg hcS
            refine xv_puti hX fl_CT_73 rfl hc.1 (xk_N (by omega)) dc_CT_readFrom_125 (rfl : _ = 128) ?_
            refine xv_aload_n hX 1 dc_CT_readFrom_128 rfl (rfl : _ = 129) ?_
            refine xv_callv hX (As := []) (rest := []) (ct_RD_close _ Y (xm_set M122 c 7 w) iS) ml_CT_125 li_RD_close rfl (by decide) rfl rfl rfl (by decide) ⟨by decide, by decide⟩ ⟨Nat.le_refl _, Nat.le_refl _⟩ (Nat.le_of_ble_eq_true rfl) dc_CT_readFrom_129 (rfl : _ = 132) (fun M129 p129 => ?_)
            obtain ⟨i129, f129, e129⟩ := p129
            rw [oS] at e129
            have hcrt := rs_and hb h122
            rw [e11] at hcrt
            have hcrt := rs_in (hd5.mono (by decide)) hcrt
            rw [← e129] at hcrt
            have hfin := rs_cert hcrt
            refine xv_aload_n hX 1 dc_CT_readFrom_132 rfl (rfl : _ = 133) ?_
            refine xv_calli hX (As := []) (rest := []) (ct_RD_isAtEndOfRow _ Y M129 i129) ml_CT_137 li_RD_isAtEndOfRow rfl (by decide) rfl rfl rfl (by decide) ⟨by decide, by decide⟩ ⟨Nat.le_refl _, Nat.le_refl _⟩ (Nat.le_of_ble_eq_true rfl) dc_CT_readFrom_133 (rfl : _ = 136) (fun r133 M133 p133 => ?_)
            rw [p133.1, p133.2]
            have hif9 : (if rd_end (rd_of M129) = true then 1 else 0) < 2 := by split <;> decide
            refine xv_reti hX hR (xi_z hif9) dc_CT_readFrom_136 ?_
            have F129 : ct_F c M M129 := fun q a1 a2 a3 => by rw [f129 q a1 a2, xm_oth (by omega), f122 q a1 a2, xm_oth (by omega), F9 q a1 a2 a3, F27 q a1 a2 a3]
            have u129 : ∀ j, j ≠ 7 → j ≠ 8 → M129 c j = M105 c j := fun j a1 a2 => by rw [f129 c (by omega) (by omega), xm_nk a1, f122 c (by omega) (by omega), xm_nk a2]
            have v129 : ∀ q, q ≠ 1 → q ≠ 4 → q ≠ c → M129 q = M105 q := fun q a1 a2 a3 => by rw [f129 q a1 a2, xm_oth a3, f122 q a1 a2, xm_oth a3]
            refine ⟨i129, F129, _, rfl, hif9, fun ht => ?_, fun ht => ?_⟩
            · rcases hfin with ⟨-, C, hC, ⟨⟨hV1, hV2, hV3, hle9, hl59, hl69⟩, ⟨L1, hL1⟩, ⟨L2, hL2⟩⟩, hw9⟩ | ⟨h0, -⟩
              · refine ⟨C, hC, ?_, ?_, ?_, ?_, ?_⟩
                · exact ⟨by rw [u129 0 (by decide) (by decide)]; exact hV1.1, nm_is_cg (v129 _ (by omega) (by omega) (by omega)) (v129 _ (by omega) (by omega) (by omega)) hV1.2.1, ⟨by rw [u129 2 (by decide) (by decide)]; exact hV1.2.2.1.1, by rw [u129 3 (by decide) (by decide)]; exact hV1.2.2.1.2⟩, nm_is_cg (v129 _ (by omega) (by omega) (by omega)) (v129 _ (by omega) (by omega) (by omega)) hV1.2.2.2.1, by rw [u129 5 (by decide) (by decide)]; exact hV1.2.2.2.2.1, by rw [u129 6 (by decide) (by decide)]; exact hV1.2.2.2.2.2⟩
                · exact ct_E_cg hV2 (u129 11 (by decide) (by decide)) (u129 12 (by decide) (by decide)) (u129 13 (by decide) (by decide)) hle9 hl59 hl69 (fun q a1 a2 => v129 q (by omega) (by omega) (by omega))
                · rw [u129 10 (by decide) (by decide)]; exact hV3
                · rw [f129 c (by omega) (by omega), xm_nk (by decide), f122 c (by omega) (by omega), xm_eq]
                  rw [← e11] at hL1
                  rw [rd_of_at hL1, rd_of_at hL2]
                · rw [f129 c (by omega) (by omega), xm_eq]; exact hw9.symm
              · rw [h0] at ht
                exact absurd ht (by decide)
            · rcases hfin with ⟨h0, -⟩ | ⟨-, hC⟩
              · rw [h0] at ht
                exact absurd ht (by decide)
              · exact hC
    refine xv_sub (L' := [(0, .ref (Y.2.2.2 c)), (1, .ref (Y.2.2.2 1)), (2, .int (nI (M11 1 3)))]) [0, 1, 2] rfl ?_
    exact lp53 _ M50 0 ps_E0 (by decide) (by rw [g50 c (by omega) (by omega)]; exact z27) i50 hd50 (ct_F.of g50) ⟨fun j _ _ _ _ => by rw [g50 c (by omega) (by omega)], fun q a1 a2 => g50 q (by omega) (by omega)⟩ (fun j hj => absurd hj (Nat.not_lt_zero _)) (by rw [g50 _ (by omega) (by omega)]; exact l527) (by rw [g50 _ (by omega) (by omega)]; exact l627) (fun _ => ⟨ct_E_cg hE27 (by rw [g50 c (by omega) (by omega)]) (by rw [g50 c (by omega) (by omega)]) (by rw [g50 c (by omega) (by omega)]) (by decide) l527 l627 (fun q a1 a2 => g50 q (by omega) (by omega)), rfl⟩) rfl (Nat.lt_succ_self _)
end
