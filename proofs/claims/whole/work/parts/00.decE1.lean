/-! what each instruction is -/
theorem dc_MD_init_0 : decode prog_9_method_1_code 0 = .ok (.aload_n 0, 1) := by decide +kernel
theorem dc_MD_init_1 : decode prog_9_method_1_code 1 = .ok (.invokespecial 1, 3) := by decide +kernel
theorem dc_MD_init_4 : decode prog_9_method_1_code 4 = .ok (.aload_n 0, 1) := by decide +kernel
theorem dc_MD_init_5 : decode prog_9_method_1_code 5 = .ok (.sipush 1440, 3) := by decide +kernel
theorem dc_MD_init_8 : decode prog_9_method_1_code 8 = .ok (.newarray .int, 2) := by decide +kernel
theorem dc_MD_init_10 : decode prog_9_method_1_code 10 = .ok (.putfield 7, 3) := by decide +kernel
theorem dc_MD_init_13 : decode prog_9_method_1_code 13 = .ok (.aload_n 0, 1) := by decide +kernel
theorem dc_MD_init_14 : decode prog_9_method_1_code 14 = .ok (.bipush 8, 2) := by decide +kernel
theorem dc_MD_init_16 : decode prog_9_method_1_code 16 = .ok (.newarray .int, 2) := by decide +kernel
theorem dc_MD_init_18 : decode prog_9_method_1_code 18 = .ok (.putfield 13, 3) := by decide +kernel
theorem dc_MD_init_21 : decode prog_9_method_1_code 21 = .ok (.aload_n 0, 1) := by decide +kernel
theorem dc_MD_init_22 : decode prog_9_method_1_code 22 = .ok (.bipush 6, 2) := by decide +kernel
theorem dc_MD_init_24 : decode prog_9_method_1_code 24 = .ok (.newarray .int, 2) := by decide +kernel
theorem dc_MD_init_26 : decode prog_9_method_1_code 26 = .ok (.putfield 16, 3) := by decide +kernel
theorem dc_MD_init_29 : decode prog_9_method_1_code 29 = .ok (.aload_n 0, 1) := by decide +kernel
theorem dc_MD_init_30 : decode prog_9_method_1_code 30 = .ok (.iconst 4, 1) := by decide +kernel
theorem dc_MD_init_31 : decode prog_9_method_1_code 31 = .ok (.newarray .int, 2) := by decide +kernel
theorem dc_MD_init_33 : decode prog_9_method_1_code 33 = .ok (.putfield 19, 3) := by decide +kernel
theorem dc_MD_init_36 : decode prog_9_method_1_code 36 = .ok (.return_, 1) := by decide +kernel
theorem dc_MD_feed_0 : decode prog_9_method_2_code 0 = .ok (.iload_n 2, 1) := by decide +kernel
theorem dc_MD_feed_1 : decode prog_9_method_2_code 1 = .ok (.iconst 1, 1) := by decide +kernel
theorem dc_MD_feed_2 : decode prog_9_method_2_code 2 = .ok (.if_icmp .lt 20, 3) := by decide +kernel
theorem dc_MD_feed_5 : decode prog_9_method_2_code 5 = .ok (.iload_n 2, 1) := by decide +kernel
theorem dc_MD_feed_6 : decode prog_9_method_2_code 6 = .ok (.iconst 4, 1) := by decide +kernel
theorem dc_MD_feed_7 : decode prog_9_method_2_code 7 = .ok (.if_icmp .gt 15, 3) := by decide +kernel
theorem dc_MD_feed_10 : decode prog_9_method_2_code 10 = .ok (.aload_n 0, 1) := by decide +kernel
theorem dc_MD_feed_11 : decode prog_9_method_2_code 11 = .ok (.getfield 22, 3) := by decide +kernel
theorem dc_MD_feed_14 : decode prog_9_method_2_code 14 = .ok (.iload_n 2, 1) := by decide +kernel
theorem dc_MD_feed_15 : decode prog_9_method_2_code 15 = .ok (.iadd, 1) := by decide +kernel
theorem dc_MD_feed_16 : decode prog_9_method_2_code 16 = .ok (.sipush 160, 3) := by decide +kernel
theorem dc_MD_feed_19 : decode prog_9_method_2_code 19 = .ok (.if_icmp .le 5, 3) := by decide +kernel
theorem dc_MD_feed_22 : decode prog_9_method_2_code 22 = .ok (.iconst 0, 1) := by decide +kernel
theorem dc_MD_feed_23 : decode prog_9_method_2_code 23 = .ok (.ireturn, 1) := by decide +kernel
theorem dc_MD_feed_24 : decode prog_9_method_2_code 24 = .ok (.iload_n 2, 1) := by decide +kernel
theorem dc_MD_feed_25 : decode prog_9_method_2_code 25 = .ok (.iconst 1, 1) := by decide +kernel
theorem dc_MD_feed_26 : decode prog_9_method_2_code 26 = .ok (.isub, 1) := by decide +kernel
theorem dc_MD_feed_27 : decode prog_9_method_2_code 27 = .ok (.istore_n 3, 1) := by decide +kernel
theorem dc_MD_feed_28 : decode prog_9_method_2_code 28 = .ok (.iload_n 3, 1) := by decide +kernel
theorem dc_MD_feed_29 : decode prog_9_method_2_code 29 = .ok (.ifCond .lt 42, 3) := by decide +kernel
theorem dc_MD_feed_32 : decode prog_9_method_2_code 32 = .ok (.aload_n 0, 1) := by decide +kernel
theorem dc_MD_feed_33 : decode prog_9_method_2_code 33 = .ok (.getfield 7, 3) := by decide +kernel
theorem dc_MD_feed_36 : decode prog_9_method_2_code 36 = .ok (.sipush 1280, 3) := by decide +kernel
theorem dc_MD_feed_39 : decode prog_9_method_2_code 39 = .ok (.aload_n 0, 1) := by decide +kernel
theorem dc_MD_feed_40 : decode prog_9_method_2_code 40 = .ok (.getfield 22, 3) := by decide +kernel
theorem dc_MD_feed_43 : decode prog_9_method_2_code 43 = .ok (.iadd, 1) := by decide +kernel
theorem dc_MD_feed_44 : decode prog_9_method_2_code 44 = .ok (.iload_n 1, 1) := by decide +kernel
theorem dc_MD_feed_45 : decode prog_9_method_2_code 45 = .ok (.bipush 8, 2) := by decide +kernel
theorem dc_MD_feed_47 : decode prog_9_method_2_code 47 = .ok (.iload_n 3, 1) := by decide +kernel
theorem dc_MD_feed_48 : decode prog_9_method_2_code 48 = .ok (.imul, 1) := by decide +kernel
theorem dc_MD_feed_49 : decode prog_9_method_2_code 49 = .ok (.ishr, 1) := by decide +kernel
theorem dc_MD_feed_50 : decode prog_9_method_2_code 50 = .ok (.sipush 255, 3) := by decide +kernel
theorem dc_MD_feed_53 : decode prog_9_method_2_code 53 = .ok (.iand, 1) := by decide +kernel
theorem dc_MD_feed_54 : decode prog_9_method_2_code 54 = .ok (.iastore, 1) := by decide +kernel
theorem dc_MD_feed_55 : decode prog_9_method_2_code 55 = .ok (.aload_n 0, 1) := by decide +kernel
theorem dc_MD_feed_56 : decode prog_9_method_2_code 56 = .ok (.aload_n 0, 1) := by decide +kernel
theorem dc_MD_feed_57 : decode prog_9_method_2_code 57 = .ok (.getfield 22, 3) := by decide +kernel
theorem dc_MD_feed_60 : decode prog_9_method_2_code 60 = .ok (.iconst 1, 1) := by decide +kernel
theorem dc_MD_feed_61 : decode prog_9_method_2_code 61 = .ok (.iadd, 1) := by decide +kernel
theorem dc_MD_feed_62 : decode prog_9_method_2_code 62 = .ok (.putfield 22, 3) := by decide +kernel
theorem dc_MD_feed_65 : decode prog_9_method_2_code 65 = .ok (.iinc 3 (-1), 3) := by decide +kernel
theorem dc_MD_feed_68 : decode prog_9_method_2_code 68 = .ok (.goto (-40), 3) := by decide +kernel
theorem dc_MD_feed_71 : decode prog_9_method_2_code 71 = .ok (.iconst 1, 1) := by decide +kernel
theorem dc_MD_feed_72 : decode prog_9_method_2_code 72 = .ok (.ireturn, 1) := by decide +kernel
theorem dc_MD_set_0 : decode prog_9_method_3_code 0 = .ok (.iload_n 1, 1) := by decide +kernel
theorem dc_MD_set_1 : decode prog_9_method_3_code 1 = .ok (.ifCond .lt 22, 3) := by decide +kernel
theorem dc_MD_set_4 : decode prog_9_method_3_code 4 = .ok (.iload_n 1, 1) := by decide +kernel
theorem dc_MD_set_5 : decode prog_9_method_3_code 5 = .ok (.aload_n 0, 1) := by decide +kernel
theorem dc_MD_set_6 : decode prog_9_method_3_code 6 = .ok (.getfield 22, 3) := by decide +kernel
theorem dc_MD_set_9 : decode prog_9_method_3_code 9 = .ok (.if_icmp .ge 14, 3) := by decide +kernel
theorem dc_MD_set_12 : decode prog_9_method_3_code 12 = .ok (.iload_n 2, 1) := by decide +kernel
theorem dc_MD_set_13 : decode prog_9_method_3_code 13 = .ok (.ifCond .lt 10, 3) := by decide +kernel
theorem dc_MD_set_16 : decode prog_9_method_3_code 16 = .ok (.iload_n 2, 1) := by decide +kernel
theorem dc_MD_set_17 : decode prog_9_method_3_code 17 = .ok (.sipush 255, 3) := by decide +kernel
theorem dc_MD_set_20 : decode prog_9_method_3_code 20 = .ok (.if_icmp .le 5, 3) := by decide +kernel
theorem dc_MD_set_23 : decode prog_9_method_3_code 23 = .ok (.iconst 0, 1) := by decide +kernel
theorem dc_MD_set_24 : decode prog_9_method_3_code 24 = .ok (.ireturn, 1) := by decide +kernel
theorem dc_MD_set_25 : decode prog_9_method_3_code 25 = .ok (.aload_n 0, 1) := by decide +kernel
theorem dc_MD_set_26 : decode prog_9_method_3_code 26 = .ok (.getfield 7, 3) := by decide +kernel
theorem dc_MD_set_29 : decode prog_9_method_3_code 29 = .ok (.sipush 1280, 3) := by decide +kernel
theorem dc_MD_set_32 : decode prog_9_method_3_code 32 = .ok (.iload_n 1, 1) := by decide +kernel
theorem dc_MD_set_33 : decode prog_9_method_3_code 33 = .ok (.iadd, 1) := by decide +kernel
theorem dc_MD_set_34 : decode prog_9_method_3_code 34 = .ok (.iload_n 2, 1) := by decide +kernel
theorem dc_MD_set_35 : decode prog_9_method_3_code 35 = .ok (.iastore, 1) := by decide +kernel
theorem dc_MD_set_36 : decode prog_9_method_3_code 36 = .ok (.iconst 1, 1) := by decide +kernel
theorem dc_MD_set_37 : decode prog_9_method_3_code 37 = .ok (.ireturn, 1) := by decide +kernel
theorem dc_MD_trim_0 : decode prog_9_method_4_code 0 = .ok (.iload_n 1, 1) := by decide +kernel
theorem dc_MD_trim_1 : decode prog_9_method_4_code 1 = .ok (.ifCond .lt 11, 3) := by decide +kernel
theorem dc_MD_trim_4 : decode prog_9_method_4_code 4 = .ok (.iload_n 1, 1) := by decide +kernel
theorem dc_MD_trim_5 : decode prog_9_method_4_code 5 = .ok (.aload_n 0, 1) := by decide +kernel
theorem dc_MD_trim_6 : decode prog_9_method_4_code 6 = .ok (.getfield 22, 3) := by decide +kernel
theorem dc_MD_trim_9 : decode prog_9_method_4_code 9 = .ok (.if_icmp .le 5, 3) := by decide +kernel
theorem dc_MD_trim_12 : decode prog_9_method_4_code 12 = .ok (.iconst 0, 1) := by decide +kernel
theorem dc_MD_trim_13 : decode prog_9_method_4_code 13 = .ok (.ireturn, 1) := by decide +kernel
theorem dc_MD_trim_14 : decode prog_9_method_4_code 14 = .ok (.aload_n 0, 1) := by decide +kernel
theorem dc_MD_trim_15 : decode prog_9_method_4_code 15 = .ok (.iload_n 1, 1) := by decide +kernel
theorem dc_MD_trim_16 : decode prog_9_method_4_code 16 = .ok (.putfield 22, 3) := by decide +kernel
theorem dc_MD_trim_19 : decode prog_9_method_4_code 19 = .ok (.iconst 1, 1) := by decide +kernel
theorem dc_MD_trim_20 : decode prog_9_method_4_code 20 = .ok (.ireturn, 1) := by decide +kernel
theorem dc_MD_length_0 : decode prog_9_method_5_code 0 = .ok (.aload_n 0, 1) := by decide +kernel
theorem dc_MD_length_1 : decode prog_9_method_5_code 1 = .ok (.getfield 22, 3) := by decide +kernel
theorem dc_MD_length_4 : decode prog_9_method_5_code 4 = .ok (.ireturn, 1) := by decide +kernel
theorem dc_MD_byteAt_0 : decode prog_9_method_6_code 0 = .ok (.iload_n 1, 1) := by decide +kernel
theorem dc_MD_byteAt_1 : decode prog_9_method_6_code 1 = .ok (.ifCond .lt 11, 3) := by decide +kernel
theorem dc_MD_byteAt_4 : decode prog_9_method_6_code 4 = .ok (.iload_n 1, 1) := by decide +kernel
theorem dc_MD_byteAt_5 : decode prog_9_method_6_code 5 = .ok (.aload_n 0, 1) := by decide +kernel
theorem dc_MD_byteAt_6 : decode prog_9_method_6_code 6 = .ok (.getfield 22, 3) := by decide +kernel
theorem dc_MD_byteAt_9 : decode prog_9_method_6_code 9 = .ok (.if_icmp .lt 7, 3) := by decide +kernel
theorem dc_MD_byteAt_12 : decode prog_9_method_6_code 12 = .ok (.iconst (-1), 1) := by decide +kernel
theorem dc_MD_byteAt_13 : decode prog_9_method_6_code 13 = .ok (.goto 13, 3) := by decide +kernel
theorem dc_MD_byteAt_16 : decode prog_9_method_6_code 16 = .ok (.aload_n 0, 1) := by decide +kernel
theorem dc_MD_byteAt_17 : decode prog_9_method_6_code 17 = .ok (.getfield 7, 3) := by decide +kernel
theorem dc_MD_byteAt_20 : decode prog_9_method_6_code 20 = .ok (.sipush 1280, 3) := by decide +kernel
theorem dc_MD_byteAt_23 : decode prog_9_method_6_code 23 = .ok (.iload_n 1, 1) := by decide +kernel
theorem dc_MD_byteAt_24 : decode prog_9_method_6_code 24 = .ok (.iadd, 1) := by decide +kernel
theorem dc_MD_byteAt_25 : decode prog_9_method_6_code 25 = .ok (.iaload, 1) := by decide +kernel
theorem dc_MD_byteAt_26 : decode prog_9_method_6_code 26 = .ok (.ireturn, 1) := by decide +kernel
theorem dc_MD_hashed_0 : decode prog_9_method_7_code 0 = .ok (.lconst 0, 1) := by decide +kernel
theorem dc_MD_hashed_1 : decode prog_9_method_7_code 1 = .ok (.lstore_n 3, 1) := by decide +kernel
theorem dc_MD_hashed_2 : decode prog_9_method_7_code 2 = .ok (.iload_n 1, 1) := by decide +kernel
theorem dc_MD_hashed_3 : decode prog_9_method_7_code 3 = .ok (.istore 5, 2) := by decide +kernel
theorem dc_MD_hashed_5 : decode prog_9_method_7_code 5 = .ok (.iload 5, 2) := by decide +kernel
theorem dc_MD_hashed_7 : decode prog_9_method_7_code 7 = .ok (.iload_n 2, 1) := by decide +kernel
theorem dc_MD_hashed_8 : decode prog_9_method_7_code 8 = .ok (.if_icmp .ge 30, 3) := by decide +kernel
theorem dc_MD_hashed_11 : decode prog_9_method_7_code 11 = .ok (.ldc2_w 26, 3) := by decide +kernel
theorem dc_MD_hashed_14 : decode prog_9_method_7_code 14 = .ok (.lload_n 3, 1) := by decide +kernel
theorem dc_MD_hashed_15 : decode prog_9_method_7_code 15 = .ok (.lmul, 1) := by decide +kernel
theorem dc_MD_hashed_16 : decode prog_9_method_7_code 16 = .ok (.aload_n 0, 1) := by decide +kernel
theorem dc_MD_hashed_17 : decode prog_9_method_7_code 17 = .ok (.getfield 7, 3) := by decide +kernel
theorem dc_MD_hashed_20 : decode prog_9_method_7_code 20 = .ok (.iload 5, 2) := by decide +kernel
theorem dc_MD_hashed_22 : decode prog_9_method_7_code 22 = .ok (.iaload, 1) := by decide +kernel
theorem dc_MD_hashed_23 : decode prog_9_method_7_code 23 = .ok (.i2l, 1) := by decide +kernel
theorem dc_MD_hashed_24 : decode prog_9_method_7_code 24 = .ok (.ladd, 1) := by decide +kernel
theorem dc_MD_hashed_25 : decode prog_9_method_7_code 25 = .ok (.lconst 1, 1) := by decide +kernel
theorem dc_MD_hashed_26 : decode prog_9_method_7_code 26 = .ok (.ladd, 1) := by decide +kernel
theorem dc_MD_hashed_27 : decode prog_9_method_7_code 27 = .ok (.ldc2_w 28, 3) := by decide +kernel
theorem dc_MD_hashed_30 : decode prog_9_method_7_code 30 = .ok (.lrem, 1) := by decide +kernel
theorem dc_MD_hashed_31 : decode prog_9_method_7_code 31 = .ok (.lstore_n 3, 1) := by decide +kernel
theorem dc_MD_hashed_32 : decode prog_9_method_7_code 32 = .ok (.iinc 5 1, 3) := by decide +kernel
theorem dc_MD_hashed_35 : decode prog_9_method_7_code 35 = .ok (.goto (-30), 3) := by decide +kernel
theorem dc_MD_hashed_38 : decode prog_9_method_7_code 38 = .ok (.lload_n 3, 1) := by decide +kernel
theorem dc_MD_hashed_39 : decode prog_9_method_7_code 39 = .ok (.l2i, 1) := by decide +kernel
theorem dc_MD_hashed_40 : decode prog_9_method_7_code 40 = .ok (.ireturn, 1) := by decide +kernel
theorem dc_MD_hash_0 : decode prog_9_method_8_code 0 = .ok (.iload_n 1, 1) := by decide +kernel
theorem dc_MD_hash_1 : decode prog_9_method_8_code 1 = .ok (.ifCond .lt 16, 3) := by decide +kernel
theorem dc_MD_hash_4 : decode prog_9_method_8_code 4 = .ok (.iload_n 1, 1) := by decide +kernel
theorem dc_MD_hash_5 : decode prog_9_method_8_code 5 = .ok (.iload_n 2, 1) := by decide +kernel
theorem dc_MD_hash_6 : decode prog_9_method_8_code 6 = .ok (.if_icmp .gt 11, 3) := by decide +kernel
theorem dc_MD_hash_9 : decode prog_9_method_8_code 9 = .ok (.iload_n 2, 1) := by decide +kernel
theorem dc_MD_hash_10 : decode prog_9_method_8_code 10 = .ok (.aload_n 0, 1) := by decide +kernel
theorem dc_MD_hash_11 : decode prog_9_method_8_code 11 = .ok (.getfield 22, 3) := by decide +kernel
theorem dc_MD_hash_14 : decode prog_9_method_8_code 14 = .ok (.if_icmp .le 7, 3) := by decide +kernel
theorem dc_MD_hash_17 : decode prog_9_method_8_code 17 = .ok (.iconst (-1), 1) := by decide +kernel
theorem dc_MD_hash_18 : decode prog_9_method_8_code 18 = .ok (.goto 17, 3) := by decide +kernel
theorem dc_MD_hash_21 : decode prog_9_method_8_code 21 = .ok (.aload_n 0, 1) := by decide +kernel
theorem dc_MD_hash_22 : decode prog_9_method_8_code 22 = .ok (.sipush 1280, 3) := by decide +kernel
theorem dc_MD_hash_25 : decode prog_9_method_8_code 25 = .ok (.iload_n 1, 1) := by decide +kernel
theorem dc_MD_hash_26 : decode prog_9_method_8_code 26 = .ok (.iadd, 1) := by decide +kernel
theorem dc_MD_hash_27 : decode prog_9_method_8_code 27 = .ok (.sipush 1280, 3) := by decide +kernel
theorem dc_MD_hash_30 : decode prog_9_method_8_code 30 = .ok (.iload_n 2, 1) := by decide +kernel
theorem dc_MD_hash_31 : decode prog_9_method_8_code 31 = .ok (.iadd, 1) := by decide +kernel
theorem dc_MD_hash_32 : decode prog_9_method_8_code 32 = .ok (.invokevirtual 30, 3) := by decide +kernel
theorem dc_MD_hash_35 : decode prog_9_method_8_code 35 = .ok (.ireturn, 1) := by decide +kernel
theorem dc_MD_tagged_0 : decode prog_9_method_9_code 0 = .ok (.aload_n 0, 1) := by decide +kernel
theorem dc_MD_tagged_1 : decode prog_9_method_9_code 1 = .ok (.getfield 34, 3) := by decide +kernel
theorem dc_MD_tagged_4 : decode prog_9_method_9_code 4 = .ok (.ifCond .ne 28, 3) := by decide +kernel
theorem dc_MD_tagged_7 : decode prog_9_method_9_code 7 = .ok (.aload_n 0, 1) := by decide +kernel
theorem dc_MD_tagged_8 : decode prog_9_method_9_code 8 = .ok (.getfield 38, 3) := by decide +kernel
theorem dc_MD_tagged_11 : decode prog_9_method_9_code 11 = .ok (.iload_n 2, 1) := by decide +kernel
theorem dc_MD_tagged_12 : decode prog_9_method_9_code 12 = .ok (.if_icmp .ge 20, 3) := by decide +kernel
theorem dc_MD_tagged_15 : decode prog_9_method_9_code 15 = .ok (.aload_n 0, 1) := by decide +kernel
theorem dc_MD_tagged_16 : decode prog_9_method_9_code 16 = .ok (.getfield 7, 3) := by decide +kernel
theorem dc_MD_tagged_19 : decode prog_9_method_9_code 19 = .ok (.aload_n 0, 1) := by decide +kernel
theorem dc_MD_tagged_20 : decode prog_9_method_9_code 20 = .ok (.getfield 38, 3) := by decide +kernel
theorem dc_MD_tagged_23 : decode prog_9_method_9_code 23 = .ok (.iaload, 1) := by decide +kernel
theorem dc_MD_tagged_24 : decode prog_9_method_9_code 24 = .ok (.iload_n 1, 1) := by decide +kernel
theorem dc_MD_tagged_25 : decode prog_9_method_9_code 25 = .ok (.if_icmp .ne 7, 3) := by decide +kernel
theorem dc_MD_tagged_28 : decode prog_9_method_9_code 28 = .ok (.iconst 1, 1) := by decide +kernel
theorem dc_MD_tagged_29 : decode prog_9_method_9_code 29 = .ok (.goto 4, 3) := by decide +kernel
theorem dc_MD_tagged_32 : decode prog_9_method_9_code 32 = .ok (.iconst 0, 1) := by decide +kernel
theorem dc_MD_tagged_33 : decode prog_9_method_9_code 33 = .ok (.ireturn, 1) := by decide +kernel
theorem dc_MD_enter_0 : decode prog_9_method_10_code 0 = .ok (.aload_n 0, 1) := by decide +kernel
theorem dc_MD_enter_1 : decode prog_9_method_10_code 1 = .ok (.aload_n 0, 1) := by decide +kernel
theorem dc_MD_enter_2 : decode prog_9_method_10_code 2 = .ok (.iload_n 1, 1) := by decide +kernel
theorem dc_MD_enter_3 : decode prog_9_method_10_code 3 = .ok (.iload_n 2, 1) := by decide +kernel
theorem dc_MD_enter_4 : decode prog_9_method_10_code 4 = .ok (.invokevirtual 41, 3) := by decide +kernel
theorem dc_MD_enter_7 : decode prog_9_method_10_code 7 = .ok (.ifCond .eq 13, 3) := by decide +kernel
theorem dc_MD_enter_10 : decode prog_9_method_10_code 10 = .ok (.aload_n 0, 1) := by decide +kernel
theorem dc_MD_enter_11 : decode prog_9_method_10_code 11 = .ok (.getfield 38, 3) := by decide +kernel
theorem dc_MD_enter_14 : decode prog_9_method_10_code 14 = .ok (.iconst 2, 1) := by decide +kernel
theorem dc_MD_enter_15 : decode prog_9_method_10_code 15 = .ok (.iadd, 1) := by decide +kernel
theorem dc_MD_enter_16 : decode prog_9_method_10_code 16 = .ok (.iload_n 2, 1) := by decide +kernel
theorem dc_MD_enter_17 : decode prog_9_method_10_code 17 = .ok (.if_icmp .le 7, 3) := by decide +kernel
theorem dc_MD_enter_20 : decode prog_9_method_10_code 20 = .ok (.iconst 1, 1) := by decide +kernel
theorem dc_MD_enter_21 : decode prog_9_method_10_code 21 = .ok (.goto 4, 3) := by decide +kernel
theorem dc_MD_enter_24 : decode prog_9_method_10_code 24 = .ok (.iconst 0, 1) := by decide +kernel
theorem dc_MD_enter_25 : decode prog_9_method_10_code 25 = .ok (.putfield 34, 3) := by decide +kernel
theorem dc_MD_enter_28 : decode prog_9_method_10_code 28 = .ok (.aload_n 0, 1) := by decide +kernel
theorem dc_MD_enter_29 : decode prog_9_method_10_code 29 = .ok (.getfield 34, 3) := by decide +kernel
theorem dc_MD_enter_32 : decode prog_9_method_10_code 32 = .ok (.ifCond .eq 5, 3) := by decide +kernel
theorem dc_MD_enter_35 : decode prog_9_method_10_code 35 = .ok (.iload_n 2, 1) := by decide +kernel
theorem dc_MD_enter_36 : decode prog_9_method_10_code 36 = .ok (.ireturn, 1) := by decide +kernel
theorem dc_MD_enter_37 : decode prog_9_method_10_code 37 = .ok (.aload_n 0, 1) := by decide +kernel
theorem dc_MD_enter_38 : decode prog_9_method_10_code 38 = .ok (.getfield 7, 3) := by decide +kernel
theorem dc_MD_enter_41 : decode prog_9_method_10_code 41 = .ok (.aload_n 0, 1) := by decide +kernel
theorem dc_MD_enter_42 : decode prog_9_method_10_code 42 = .ok (.getfield 38, 3) := by decide +kernel
theorem dc_MD_enter_45 : decode prog_9_method_10_code 45 = .ok (.iconst 1, 1) := by decide +kernel
theorem dc_MD_enter_46 : decode prog_9_method_10_code 46 = .ok (.iadd, 1) := by decide +kernel
theorem dc_MD_enter_47 : decode prog_9_method_10_code 47 = .ok (.iaload, 1) := by decide +kernel
theorem dc_MD_enter_48 : decode prog_9_method_10_code 48 = .ok (.istore_n 3, 1) := by decide +kernel
theorem dc_MD_enter_49 : decode prog_9_method_10_code 49 = .ok (.aload_n 0, 1) := by decide +kernel
theorem dc_MD_enter_50 : decode prog_9_method_10_code 50 = .ok (.aload_n 0, 1) := by decide +kernel
theorem dc_MD_enter_51 : decode prog_9_method_10_code 51 = .ok (.getfield 38, 3) := by decide +kernel
theorem dc_MD_enter_54 : decode prog_9_method_10_code 54 = .ok (.iconst 2, 1) := by decide +kernel
theorem dc_MD_enter_55 : decode prog_9_method_10_code 55 = .ok (.iadd, 1) := by decide +kernel
theorem dc_MD_enter_56 : decode prog_9_method_10_code 56 = .ok (.putfield 38, 3) := by decide +kernel
theorem dc_MD_enter_59 : decode prog_9_method_10_code 59 = .ok (.iload_n 3, 1) := by decide +kernel
theorem dc_MD_enter_60 : decode prog_9_method_10_code 60 = .ok (.bipush 127, 2) := by decide +kernel
theorem dc_MD_enter_62 : decode prog_9_method_10_code 62 = .ok (.if_icmp .le 73, 3) := by decide +kernel
theorem dc_MD_enter_65 : decode prog_9_method_10_code 65 = .ok (.aload_n 0, 1) := by decide +kernel
theorem dc_MD_enter_66 : decode prog_9_method_10_code 66 = .ok (.iload_n 3, 1) := by decide +kernel
theorem dc_MD_enter_67 : decode prog_9_method_10_code 67 = .ok (.sipush 129, 3) := by decide +kernel
theorem dc_MD_enter_70 : decode prog_9_method_10_code 70 = .ok (.if_icmp .ne 26, 3) := by decide +kernel
theorem dc_MD_enter_73 : decode prog_9_method_10_code 73 = .ok (.aload_n 0, 1) := by decide +kernel
theorem dc_MD_enter_74 : decode prog_9_method_10_code 74 = .ok (.getfield 38, 3) := by decide +kernel
theorem dc_MD_enter_77 : decode prog_9_method_10_code 77 = .ok (.iload_n 2, 1) := by decide +kernel
theorem dc_MD_enter_78 : decode prog_9_method_10_code 78 = .ok (.if_icmp .ge 18, 3) := by decide +kernel
theorem dc_MD_enter_81 : decode prog_9_method_10_code 81 = .ok (.aload_n 0, 1) := by decide +kernel
theorem dc_MD_enter_82 : decode prog_9_method_10_code 82 = .ok (.getfield 7, 3) := by decide +kernel
theorem dc_MD_enter_85 : decode prog_9_method_10_code 85 = .ok (.aload_n 0, 1) := by decide +kernel
theorem dc_MD_enter_86 : decode prog_9_method_10_code 86 = .ok (.getfield 38, 3) := by decide +kernel
theorem dc_MD_enter_89 : decode prog_9_method_10_code 89 = .ok (.iaload, 1) := by decide +kernel
theorem dc_MD_enter_90 : decode prog_9_method_10_code 90 = .ok (.sipush 128, 3) := by decide +kernel
theorem dc_MD_enter_93 : decode prog_9_method_10_code 93 = .ok (.if_icmp .ge 7, 3) := by decide +kernel
theorem dc_MD_enter_96 : decode prog_9_method_10_code 96 = .ok (.iconst 1, 1) := by decide +kernel
theorem dc_MD_enter_97 : decode prog_9_method_10_code 97 = .ok (.goto 4, 3) := by decide +kernel
theorem dc_MD_enter_100 : decode prog_9_method_10_code 100 = .ok (.iconst 0, 1) := by decide +kernel
theorem dc_MD_enter_101 : decode prog_9_method_10_code 101 = .ok (.putfield 34, 3) := by decide +kernel
theorem dc_MD_enter_104 : decode prog_9_method_10_code 104 = .ok (.aload_n 0, 1) := by decide +kernel
theorem dc_MD_enter_105 : decode prog_9_method_10_code 105 = .ok (.getfield 34, 3) := by decide +kernel
theorem dc_MD_enter_108 : decode prog_9_method_10_code 108 = .ok (.ifCond .eq 7, 3) := by decide +kernel
theorem dc_MD_enter_111 : decode prog_9_method_10_code 111 = .ok (.iconst 0, 1) := by decide +kernel
theorem dc_MD_enter_112 : decode prog_9_method_10_code 112 = .ok (.goto 12, 3) := by decide +kernel
theorem dc_MD_enter_115 : decode prog_9_method_10_code 115 = .ok (.aload_n 0, 1) := by decide +kernel
theorem dc_MD_enter_116 : decode prog_9_method_10_code 116 = .ok (.getfield 7, 3) := by decide +kernel
theorem dc_MD_enter_119 : decode prog_9_method_10_code 119 = .ok (.aload_n 0, 1) := by decide +kernel
theorem dc_MD_enter_120 : decode prog_9_method_10_code 120 = .ok (.getfield 38, 3) := by decide +kernel
theorem dc_MD_enter_123 : decode prog_9_method_10_code 123 = .ok (.iaload, 1) := by decide +kernel
theorem dc_MD_enter_124 : decode prog_9_method_10_code 124 = .ok (.istore_n 3, 1) := by decide +kernel
theorem dc_MD_enter_125 : decode prog_9_method_10_code 125 = .ok (.aload_n 0, 1) := by decide +kernel
theorem dc_MD_enter_126 : decode prog_9_method_10_code 126 = .ok (.aload_n 0, 1) := by decide +kernel
theorem dc_MD_enter_127 : decode prog_9_method_10_code 127 = .ok (.getfield 38, 3) := by decide +kernel
theorem dc_MD_enter_130 : decode prog_9_method_10_code 130 = .ok (.iconst 1, 1) := by decide +kernel
theorem dc_MD_enter_131 : decode prog_9_method_10_code 131 = .ok (.iadd, 1) := by decide +kernel
theorem dc_MD_enter_132 : decode prog_9_method_10_code 132 = .ok (.putfield 38, 3) := by decide +kernel
theorem dc_MD_enter_135 : decode prog_9_method_10_code 135 = .ok (.aload_n 0, 1) := by decide +kernel
theorem dc_MD_enter_136 : decode prog_9_method_10_code 136 = .ok (.aload_n 0, 1) := by decide +kernel
theorem dc_MD_enter_137 : decode prog_9_method_10_code 137 = .ok (.getfield 34, 3) := by decide +kernel
theorem dc_MD_enter_140 : decode prog_9_method_10_code 140 = .ok (.ifCond .ne 13, 3) := by decide +kernel
theorem dc_MD_enter_143 : decode prog_9_method_10_code 143 = .ok (.iload_n 3, 1) := by decide +kernel
theorem dc_MD_enter_144 : decode prog_9_method_10_code 144 = .ok (.iload_n 2, 1) := by decide +kernel
theorem dc_MD_enter_145 : decode prog_9_method_10_code 145 = .ok (.aload_n 0, 1) := by decide +kernel
theorem dc_MD_enter_146 : decode prog_9_method_10_code 146 = .ok (.getfield 38, 3) := by decide +kernel
theorem dc_MD_enter_149 : decode prog_9_method_10_code 149 = .ok (.isub, 1) := by decide +kernel
theorem dc_MD_enter_150 : decode prog_9_method_10_code 150 = .ok (.if_icmp .le 7, 3) := by decide +kernel
theorem dc_MD_enter_153 : decode prog_9_method_10_code 153 = .ok (.iconst 1, 1) := by decide +kernel
theorem dc_MD_enter_154 : decode prog_9_method_10_code 154 = .ok (.goto 4, 3) := by decide +kernel
theorem dc_MD_enter_157 : decode prog_9_method_10_code 157 = .ok (.iconst 0, 1) := by decide +kernel
theorem dc_MD_enter_158 : decode prog_9_method_10_code 158 = .ok (.putfield 34, 3) := by decide +kernel
theorem dc_MD_enter_161 : decode prog_9_method_10_code 161 = .ok (.aload_n 0, 1) := by decide +kernel
theorem dc_MD_enter_162 : decode prog_9_method_10_code 162 = .ok (.getfield 34, 3) := by decide +kernel
theorem dc_MD_enter_165 : decode prog_9_method_10_code 165 = .ok (.ifCond .eq 7, 3) := by decide +kernel
theorem dc_MD_enter_168 : decode prog_9_method_10_code 168 = .ok (.iload_n 2, 1) := by decide +kernel
theorem dc_MD_enter_169 : decode prog_9_method_10_code 169 = .ok (.goto 9, 3) := by decide +kernel
theorem dc_MD_enter_172 : decode prog_9_method_10_code 172 = .ok (.aload_n 0, 1) := by decide +kernel
theorem dc_MD_enter_173 : decode prog_9_method_10_code 173 = .ok (.getfield 38, 3) := by decide +kernel
theorem dc_MD_enter_176 : decode prog_9_method_10_code 176 = .ok (.iload_n 3, 1) := by decide +kernel
theorem dc_MD_enter_177 : decode prog_9_method_10_code 177 = .ok (.iadd, 1) := by decide +kernel
theorem dc_MD_enter_178 : decode prog_9_method_10_code 178 = .ok (.ireturn, 1) := by decide +kernel
theorem dc_MD_leave_0 : decode prog_9_method_11_code 0 = .ok (.aload_n 0, 1) := by decide +kernel
theorem dc_MD_leave_1 : decode prog_9_method_11_code 1 = .ok (.aload_n 0, 1) := by decide +kernel
theorem dc_MD_leave_2 : decode prog_9_method_11_code 2 = .ok (.getfield 34, 3) := by decide +kernel
theorem dc_MD_leave_5 : decode prog_9_method_11_code 5 = .ok (.ifCond .ne 11, 3) := by decide +kernel
theorem dc_MD_leave_8 : decode prog_9_method_11_code 8 = .ok (.aload_n 0, 1) := by decide +kernel
theorem dc_MD_leave_9 : decode prog_9_method_11_code 9 = .ok (.getfield 38, 3) := by decide +kernel
theorem dc_MD_leave_12 : decode prog_9_method_11_code 12 = .ok (.iload_n 1, 1) := by decide +kernel
theorem dc_MD_leave_13 : decode prog_9_method_11_code 13 = .ok (.if_icmp .eq 7, 3) := by decide +kernel
theorem dc_MD_leave_16 : decode prog_9_method_11_code 16 = .ok (.iconst 1, 1) := by decide +kernel
theorem dc_MD_leave_17 : decode prog_9_method_11_code 17 = .ok (.goto 4, 3) := by decide +kernel
theorem dc_MD_leave_20 : decode prog_9_method_11_code 20 = .ok (.iconst 0, 1) := by decide +kernel
theorem dc_MD_leave_21 : decode prog_9_method_11_code 21 = .ok (.putfield 34, 3) := by decide +kernel
theorem dc_MD_leave_24 : decode prog_9_method_11_code 24 = .ok (.return_, 1) := by decide +kernel
theorem dc_MD_integer_0 : decode prog_9_method_12_code 0 = .ok (.aload_n 0, 1) := by decide +kernel
theorem dc_MD_integer_1 : decode prog_9_method_12_code 1 = .ok (.iconst 2, 1) := by decide +kernel
theorem dc_MD_integer_2 : decode prog_9_method_12_code 2 = .ok (.iload_n 1, 1) := by decide +kernel
theorem dc_MD_integer_3 : decode prog_9_method_12_code 3 = .ok (.invokevirtual 45, 3) := by decide +kernel
theorem dc_MD_integer_6 : decode prog_9_method_12_code 6 = .ok (.istore_n 2, 1) := by decide +kernel
theorem dc_MD_integer_7 : decode prog_9_method_12_code 7 = .ok (.iload_n 2, 1) := by decide +kernel
theorem dc_MD_integer_8 : decode prog_9_method_12_code 8 = .ok (.aload_n 0, 1) := by decide +kernel
theorem dc_MD_integer_9 : decode prog_9_method_12_code 9 = .ok (.getfield 38, 3) := by decide +kernel
theorem dc_MD_integer_12 : decode prog_9_method_12_code 12 = .ok (.isub, 1) := by decide +kernel
theorem dc_MD_integer_13 : decode prog_9_method_12_code 13 = .ok (.istore_n 3, 1) := by decide +kernel
theorem dc_MD_integer_14 : decode prog_9_method_12_code 14 = .ok (.aload_n 0, 1) := by decide +kernel
theorem dc_MD_integer_15 : decode prog_9_method_12_code 15 = .ok (.getfield 34, 3) := by decide +kernel
theorem dc_MD_integer_18 : decode prog_9_method_12_code 18 = .ok (.ifCond .ne 61, 3) := by decide +kernel
theorem dc_MD_integer_21 : decode prog_9_method_12_code 21 = .ok (.iload_n 3, 1) := by decide +kernel
theorem dc_MD_integer_22 : decode prog_9_method_12_code 22 = .ok (.iconst 1, 1) := by decide +kernel
theorem dc_MD_integer_23 : decode prog_9_method_12_code 23 = .ok (.if_icmp .lt 56, 3) := by decide +kernel
theorem dc_MD_integer_26 : decode prog_9_method_12_code 26 = .ok (.iload_n 3, 1) := by decide +kernel
theorem dc_MD_integer_27 : decode prog_9_method_12_code 27 = .ok (.iconst 4, 1) := by decide +kernel
theorem dc_MD_integer_28 : decode prog_9_method_12_code 28 = .ok (.if_icmp .gt 51, 3) := by decide +kernel
theorem dc_MD_integer_31 : decode prog_9_method_12_code 31 = .ok (.aload_n 0, 1) := by decide +kernel
theorem dc_MD_integer_32 : decode prog_9_method_12_code 32 = .ok (.getfield 7, 3) := by decide +kernel
theorem dc_MD_integer_35 : decode prog_9_method_12_code 35 = .ok (.aload_n 0, 1) := by decide +kernel
theorem dc_MD_integer_36 : decode prog_9_method_12_code 36 = .ok (.getfield 38, 3) := by decide +kernel
theorem dc_MD_integer_39 : decode prog_9_method_12_code 39 = .ok (.iaload, 1) := by decide +kernel
theorem dc_MD_integer_40 : decode prog_9_method_12_code 40 = .ok (.bipush 127, 2) := by decide +kernel
theorem dc_MD_integer_42 : decode prog_9_method_12_code 42 = .ok (.if_icmp .gt 37, 3) := by decide +kernel
theorem dc_MD_integer_45 : decode prog_9_method_12_code 45 = .ok (.iload_n 3, 1) := by decide +kernel
theorem dc_MD_integer_46 : decode prog_9_method_12_code 46 = .ok (.iconst 1, 1) := by decide +kernel
theorem dc_MD_integer_47 : decode prog_9_method_12_code 47 = .ok (.if_icmp .le 39, 3) := by decide +kernel
theorem dc_MD_integer_50 : decode prog_9_method_12_code 50 = .ok (.aload_n 0, 1) := by decide +kernel
theorem dc_MD_integer_51 : decode prog_9_method_12_code 51 = .ok (.getfield 7, 3) := by decide +kernel
theorem dc_MD_integer_54 : decode prog_9_method_12_code 54 = .ok (.aload_n 0, 1) := by decide +kernel
theorem dc_MD_integer_55 : decode prog_9_method_12_code 55 = .ok (.getfield 38, 3) := by decide +kernel
theorem dc_MD_integer_58 : decode prog_9_method_12_code 58 = .ok (.iaload, 1) := by decide +kernel
theorem dc_MD_integer_59 : decode prog_9_method_12_code 59 = .ok (.ifCond .ne 27, 3) := by decide +kernel
theorem dc_MD_integer_62 : decode prog_9_method_12_code 62 = .ok (.aload_n 0, 1) := by decide +kernel
theorem dc_MD_integer_63 : decode prog_9_method_12_code 63 = .ok (.getfield 7, 3) := by decide +kernel
theorem dc_MD_integer_66 : decode prog_9_method_12_code 66 = .ok (.aload_n 0, 1) := by decide +kernel
theorem dc_MD_integer_67 : decode prog_9_method_12_code 67 = .ok (.getfield 38, 3) := by decide +kernel
theorem dc_MD_integer_70 : decode prog_9_method_12_code 70 = .ok (.iconst 1, 1) := by decide +kernel
theorem dc_MD_integer_71 : decode prog_9_method_12_code 71 = .ok (.iadd, 1) := by decide +kernel
theorem dc_MD_integer_72 : decode prog_9_method_12_code 72 = .ok (.iaload, 1) := by decide +kernel
theorem dc_MD_integer_73 : decode prog_9_method_12_code 73 = .ok (.sipush 128, 3) := by decide +kernel
theorem dc_MD_integer_76 : decode prog_9_method_12_code 76 = .ok (.if_icmp .ge 10, 3) := by decide +kernel
theorem dc_MD_integer_79 : decode prog_9_method_12_code 79 = .ok (.aload_n 0, 1) := by decide +kernel
theorem dc_MD_integer_80 : decode prog_9_method_12_code 80 = .ok (.iconst 1, 1) := by decide +kernel
theorem dc_MD_integer_81 : decode prog_9_method_12_code 81 = .ok (.putfield 34, 3) := by decide +kernel
theorem dc_MD_integer_84 : decode prog_9_method_12_code 84 = .ok (.iconst 0, 1) := by decide +kernel
theorem dc_MD_integer_85 : decode prog_9_method_12_code 85 = .ok (.ireturn, 1) := by decide +kernel
theorem dc_MD_integer_86 : decode prog_9_method_12_code 86 = .ok (.iconst 0, 1) := by decide +kernel
theorem dc_MD_integer_87 : decode prog_9_method_12_code 87 = .ok (.istore 4, 2) := by decide +kernel
theorem dc_MD_integer_89 : decode prog_9_method_12_code 89 = .ok (.iconst 0, 1) := by decide +kernel
theorem dc_MD_integer_90 : decode prog_9_method_12_code 90 = .ok (.istore 5, 2) := by decide +kernel
theorem dc_MD_integer_92 : decode prog_9_method_12_code 92 = .ok (.iload 5, 2) := by decide +kernel
theorem dc_MD_integer_94 : decode prog_9_method_12_code 94 = .ok (.iload_n 3, 1) := by decide +kernel
theorem dc_MD_integer_95 : decode prog_9_method_12_code 95 = .ok (.if_icmp .ge 37, 3) := by decide +kernel
theorem dc_MD_integer_98 : decode prog_9_method_12_code 98 = .ok (.sipush 256, 3) := by decide +kernel
theorem dc_MD_integer_101 : decode prog_9_method_12_code 101 = .ok (.iload 4, 2) := by decide +kernel
theorem dc_MD_integer_103 : decode prog_9_method_12_code 103 = .ok (.imul, 1) := by decide +kernel
theorem dc_MD_integer_104 : decode prog_9_method_12_code 104 = .ok (.aload_n 0, 1) := by decide +kernel
theorem dc_MD_integer_105 : decode prog_9_method_12_code 105 = .ok (.getfield 7, 3) := by decide +kernel
theorem dc_MD_integer_108 : decode prog_9_method_12_code 108 = .ok (.aload_n 0, 1) := by decide +kernel
theorem dc_MD_integer_109 : decode prog_9_method_12_code 109 = .ok (.getfield 38, 3) := by decide +kernel
theorem dc_MD_integer_112 : decode prog_9_method_12_code 112 = .ok (.iaload, 1) := by decide +kernel
theorem dc_MD_integer_113 : decode prog_9_method_12_code 113 = .ok (.iadd, 1) := by decide +kernel
theorem dc_MD_integer_114 : decode prog_9_method_12_code 114 = .ok (.istore 4, 2) := by decide +kernel
theorem dc_MD_integer_116 : decode prog_9_method_12_code 116 = .ok (.aload_n 0, 1) := by decide +kernel
theorem dc_MD_integer_117 : decode prog_9_method_12_code 117 = .ok (.aload_n 0, 1) := by decide +kernel
theorem dc_MD_integer_118 : decode prog_9_method_12_code 118 = .ok (.getfield 38, 3) := by decide +kernel
theorem dc_MD_integer_121 : decode prog_9_method_12_code 121 = .ok (.iconst 1, 1) := by decide +kernel
theorem dc_MD_integer_122 : decode prog_9_method_12_code 122 = .ok (.iadd, 1) := by decide +kernel
theorem dc_MD_integer_123 : decode prog_9_method_12_code 123 = .ok (.putfield 38, 3) := by decide +kernel
theorem dc_MD_integer_126 : decode prog_9_method_12_code 126 = .ok (.iinc 5 1, 3) := by decide +kernel
theorem dc_MD_integer_129 : decode prog_9_method_12_code 129 = .ok (.goto (-37), 3) := by decide +kernel
theorem dc_MD_integer_132 : decode prog_9_method_12_code 132 = .ok (.iload 4, 2) := by decide +kernel
theorem dc_MD_integer_134 : decode prog_9_method_12_code 134 = .ok (.ireturn, 1) := by decide +kernel
theorem dc_MD_truth_0 : decode prog_9_method_13_code 0 = .ok (.aload_n 0, 1) := by decide +kernel
theorem dc_MD_truth_1 : decode prog_9_method_13_code 1 = .ok (.iconst 1, 1) := by decide +kernel
theorem dc_MD_truth_2 : decode prog_9_method_13_code 2 = .ok (.iload_n 1, 1) := by decide +kernel
theorem dc_MD_truth_3 : decode prog_9_method_13_code 3 = .ok (.invokevirtual 41, 3) := by decide +kernel
theorem dc_MD_truth_6 : decode prog_9_method_13_code 6 = .ok (.ifCond .ne 5, 3) := by decide +kernel
theorem dc_MD_truth_9 : decode prog_9_method_13_code 9 = .ok (.iconst 0, 1) := by decide +kernel
theorem dc_MD_truth_10 : decode prog_9_method_13_code 10 = .ok (.ireturn, 1) := by decide +kernel
theorem dc_MD_truth_11 : decode prog_9_method_13_code 11 = .ok (.aload_n 0, 1) := by decide +kernel
theorem dc_MD_truth_12 : decode prog_9_method_13_code 12 = .ok (.iconst 1, 1) := by decide +kernel
theorem dc_MD_truth_13 : decode prog_9_method_13_code 13 = .ok (.iload_n 1, 1) := by decide +kernel
theorem dc_MD_truth_14 : decode prog_9_method_13_code 14 = .ok (.invokevirtual 45, 3) := by decide +kernel
theorem dc_MD_truth_17 : decode prog_9_method_13_code 17 = .ok (.istore_n 2, 1) := by decide +kernel
theorem dc_MD_truth_18 : decode prog_9_method_13_code 18 = .ok (.aload_n 0, 1) := by decide +kernel
theorem dc_MD_truth_19 : decode prog_9_method_13_code 19 = .ok (.aload_n 0, 1) := by decide +kernel
theorem dc_MD_truth_20 : decode prog_9_method_13_code 20 = .ok (.getfield 34, 3) := by decide +kernel
theorem dc_MD_truth_23 : decode prog_9_method_13_code 23 = .ok (.ifCond .ne 28, 3) := by decide +kernel
theorem dc_MD_truth_26 : decode prog_9_method_13_code 26 = .ok (.iload_n 2, 1) := by decide +kernel
theorem dc_MD_truth_27 : decode prog_9_method_13_code 27 = .ok (.aload_n 0, 1) := by decide +kernel
theorem dc_MD_truth_28 : decode prog_9_method_13_code 28 = .ok (.getfield 38, 3) := by decide +kernel
theorem dc_MD_truth_31 : decode prog_9_method_13_code 31 = .ok (.iconst 1, 1) := by decide +kernel
theorem dc_MD_truth_32 : decode prog_9_method_13_code 32 = .ok (.iadd, 1) := by decide +kernel
theorem dc_MD_truth_33 : decode prog_9_method_13_code 33 = .ok (.if_icmp .ne 18, 3) := by decide +kernel
theorem dc_MD_truth_36 : decode prog_9_method_13_code 36 = .ok (.aload_n 0, 1) := by decide +kernel
theorem dc_MD_truth_37 : decode prog_9_method_13_code 37 = .ok (.getfield 7, 3) := by decide +kernel
theorem dc_MD_truth_40 : decode prog_9_method_13_code 40 = .ok (.aload_n 0, 1) := by decide +kernel
theorem dc_MD_truth_41 : decode prog_9_method_13_code 41 = .ok (.getfield 38, 3) := by decide +kernel
theorem dc_MD_truth_44 : decode prog_9_method_13_code 44 = .ok (.iaload, 1) := by decide +kernel
theorem dc_MD_truth_45 : decode prog_9_method_13_code 45 = .ok (.sipush 255, 3) := by decide +kernel
theorem dc_MD_truth_48 : decode prog_9_method_13_code 48 = .ok (.if_icmp .eq 7, 3) := by decide +kernel
theorem dc_MD_truth_51 : decode prog_9_method_13_code 51 = .ok (.iconst 1, 1) := by decide +kernel
theorem dc_MD_truth_52 : decode prog_9_method_13_code 52 = .ok (.goto 4, 3) := by decide +kernel
theorem dc_MD_truth_55 : decode prog_9_method_13_code 55 = .ok (.iconst 0, 1) := by decide +kernel
theorem dc_MD_truth_56 : decode prog_9_method_13_code 56 = .ok (.putfield 34, 3) := by decide +kernel
theorem dc_MD_truth_59 : decode prog_9_method_13_code 59 = .ok (.aload_n 0, 1) := by decide +kernel
theorem dc_MD_truth_60 : decode prog_9_method_13_code 60 = .ok (.iload_n 2, 1) := by decide +kernel
theorem dc_MD_truth_61 : decode prog_9_method_13_code 61 = .ok (.putfield 38, 3) := by decide +kernel
theorem dc_MD_truth_64 : decode prog_9_method_13_code 64 = .ok (.iconst 1, 1) := by decide +kernel
theorem dc_MD_truth_65 : decode prog_9_method_13_code 65 = .ok (.ireturn, 1) := by decide +kernel
theorem dc_MD_name_0 : decode prog_9_method_14_code 0 = .ok (.aload_n 0, 1) := by decide +kernel
theorem dc_MD_name_1 : decode prog_9_method_14_code 1 = .ok (.bipush 48, 2) := by decide +kernel
theorem dc_MD_name_3 : decode prog_9_method_14_code 3 = .ok (.iload_n 1, 1) := by decide +kernel
theorem dc_MD_name_4 : decode prog_9_method_14_code 4 = .ok (.invokevirtual 45, 3) := by decide +kernel
theorem dc_MD_name_7 : decode prog_9_method_14_code 7 = .ok (.istore_n 2, 1) := by decide +kernel
theorem dc_MD_name_8 : decode prog_9_method_14_code 8 = .ok (.aload_n 0, 1) := by decide +kernel
theorem dc_MD_name_9 : decode prog_9_method_14_code 9 = .ok (.aload_n 0, 1) := by decide +kernel
theorem dc_MD_name_10 : decode prog_9_method_14_code 10 = .ok (.getfield 38, 3) := by decide +kernel
theorem dc_MD_name_13 : decode prog_9_method_14_code 13 = .ok (.putfield 48, 3) := by decide +kernel
theorem dc_MD_name_16 : decode prog_9_method_14_code 16 = .ok (.aload_n 0, 1) := by decide +kernel
theorem dc_MD_name_17 : decode prog_9_method_14_code 17 = .ok (.iload_n 2, 1) := by decide +kernel
theorem dc_MD_name_18 : decode prog_9_method_14_code 18 = .ok (.putfield 51, 3) := by decide +kernel
theorem dc_MD_name_21 : decode prog_9_method_14_code 21 = .ok (.aload_n 0, 1) := by decide +kernel
theorem dc_MD_name_22 : decode prog_9_method_14_code 22 = .ok (.iconst 0, 1) := by decide +kernel
theorem dc_MD_name_23 : decode prog_9_method_14_code 23 = .ok (.putfield 54, 3) := by decide +kernel
theorem dc_MD_name_26 : decode prog_9_method_14_code 26 = .ok (.aload_n 0, 1) := by decide +kernel
theorem dc_MD_name_27 : decode prog_9_method_14_code 27 = .ok (.getfield 34, 3) := by decide +kernel
theorem dc_MD_name_30 : decode prog_9_method_14_code 30 = .ok (.ifCond .ne 138, 3) := by decide +kernel
theorem dc_MD_name_33 : decode prog_9_method_14_code 33 = .ok (.aload_n 0, 1) := by decide +kernel
theorem dc_MD_name_34 : decode prog_9_method_14_code 34 = .ok (.getfield 38, 3) := by decide +kernel
theorem dc_MD_name_37 : decode prog_9_method_14_code 37 = .ok (.iload_n 2, 1) := by decide +kernel
theorem dc_MD_name_38 : decode prog_9_method_14_code 38 = .ok (.if_icmp .ge 130, 3) := by decide +kernel
theorem dc_MD_name_41 : decode prog_9_method_14_code 41 = .ok (.aload_n 0, 1) := by decide +kernel
theorem dc_MD_name_42 : decode prog_9_method_14_code 42 = .ok (.bipush 19, 2) := by decide +kernel
theorem dc_MD_name_44 : decode prog_9_method_14_code 44 = .ok (.iload_n 2, 1) := by decide +kernel
theorem dc_MD_name_45 : decode prog_9_method_14_code 45 = .ok (.invokevirtual 45, 3) := by decide +kernel
theorem dc_MD_name_48 : decode prog_9_method_14_code 48 = .ok (.istore_n 3, 1) := by decide +kernel
theorem dc_MD_name_49 : decode prog_9_method_14_code 49 = .ok (.aload_n 0, 1) := by decide +kernel
theorem dc_MD_name_50 : decode prog_9_method_14_code 50 = .ok (.aload_n 0, 1) := by decide +kernel
theorem dc_MD_name_51 : decode prog_9_method_14_code 51 = .ok (.getfield 34, 3) := by decide +kernel
theorem dc_MD_name_54 : decode prog_9_method_14_code 54 = .ok (.ifCond .ne 30, 3) := by decide +kernel
theorem dc_MD_name_57 : decode prog_9_method_14_code 57 = .ok (.iload_n 3, 1) := by decide +kernel
theorem dc_MD_name_58 : decode prog_9_method_14_code 58 = .ok (.aload_n 0, 1) := by decide +kernel
theorem dc_MD_name_59 : decode prog_9_method_14_code 59 = .ok (.getfield 38, 3) := by decide +kernel
theorem dc_MD_name_62 : decode prog_9_method_14_code 62 = .ok (.if_icmp .eq 22, 3) := by decide +kernel
theorem dc_MD_name_65 : decode prog_9_method_14_code 65 = .ok (.iload_n 3, 1) := by decide +kernel
theorem dc_MD_name_66 : decode prog_9_method_14_code 66 = .ok (.aload_n 0, 1) := by decide +kernel
theorem dc_MD_name_67 : decode prog_9_method_14_code 67 = .ok (.getfield 38, 3) := by decide +kernel
theorem dc_MD_name_70 : decode prog_9_method_14_code 70 = .ok (.isub, 1) := by decide +kernel
theorem dc_MD_name_71 : decode prog_9_method_14_code 71 = .ok (.bipush 8, 2) := by decide +kernel
theorem dc_MD_name_73 : decode prog_9_method_14_code 73 = .ok (.if_icmp .gt 11, 3) := by decide +kernel
theorem dc_MD_name_76 : decode prog_9_method_14_code 76 = .ok (.aload_n 0, 1) := by decide +kernel
theorem dc_MD_name_77 : decode prog_9_method_14_code 77 = .ok (.getfield 54, 3) := by decide +kernel
theorem dc_MD_name_80 : decode prog_9_method_14_code 80 = .ok (.iconst 4, 1) := by decide +kernel
theorem dc_MD_name_81 : decode prog_9_method_14_code 81 = .ok (.if_icmp .ne 7, 3) := by decide +kernel
theorem dc_MD_name_84 : decode prog_9_method_14_code 84 = .ok (.iconst 1, 1) := by decide +kernel
theorem dc_MD_name_85 : decode prog_9_method_14_code 85 = .ok (.goto 4, 3) := by decide +kernel
theorem dc_MD_name_88 : decode prog_9_method_14_code 88 = .ok (.iconst 0, 1) := by decide +kernel
theorem dc_MD_name_89 : decode prog_9_method_14_code 89 = .ok (.putfield 34, 3) := by decide +kernel
theorem dc_MD_name_92 : decode prog_9_method_14_code 92 = .ok (.aload_n 0, 1) := by decide +kernel
theorem dc_MD_name_93 : decode prog_9_method_14_code 93 = .ok (.getfield 38, 3) := by decide +kernel
theorem dc_MD_name_96 : decode prog_9_method_14_code 96 = .ok (.istore 4, 2) := by decide +kernel
theorem dc_MD_name_98 : decode prog_9_method_14_code 98 = .ok (.iload 4, 2) := by decide +kernel
theorem dc_MD_name_100 : decode prog_9_method_14_code 100 = .ok (.iload_n 3, 1) := by decide +kernel
theorem dc_MD_name_101 : decode prog_9_method_14_code 101 = .ok (.if_icmp .ge 49, 3) := by decide +kernel
theorem dc_MD_name_104 : decode prog_9_method_14_code 104 = .ok (.aload_n 0, 1) := by decide +kernel
theorem dc_MD_name_105 : decode prog_9_method_14_code 105 = .ok (.getfield 34, 3) := by decide +kernel
theorem dc_MD_name_108 : decode prog_9_method_14_code 108 = .ok (.ifCond .ne 42, 3) := by decide +kernel
theorem dc_MD_name_111 : decode prog_9_method_14_code 111 = .ok (.aload_n 0, 1) := by decide +kernel
theorem dc_MD_name_112 : decode prog_9_method_14_code 112 = .ok (.aload_n 0, 1) := by decide +kernel
theorem dc_MD_name_113 : decode prog_9_method_14_code 113 = .ok (.getfield 7, 3) := by decide +kernel
theorem dc_MD_name_116 : decode prog_9_method_14_code 116 = .ok (.iload 4, 2) := by decide +kernel
theorem dc_MD_name_118 : decode prog_9_method_14_code 118 = .ok (.iaload, 1) := by decide +kernel
theorem dc_MD_name_119 : decode prog_9_method_14_code 119 = .ok (.bipush 97, 2) := by decide +kernel
theorem dc_MD_name_121 : decode prog_9_method_14_code 121 = .ok (.if_icmp .lt 15, 3) := by decide +kernel
theorem dc_MD_name_124 : decode prog_9_method_14_code 124 = .ok (.aload_n 0, 1) := by decide +kernel
theorem dc_MD_name_125 : decode prog_9_method_14_code 125 = .ok (.getfield 7, 3) := by decide +kernel
theorem dc_MD_name_128 : decode prog_9_method_14_code 128 = .ok (.iload 4, 2) := by decide +kernel
theorem dc_MD_name_130 : decode prog_9_method_14_code 130 = .ok (.iaload, 1) := by decide +kernel
theorem dc_MD_name_131 : decode prog_9_method_14_code 131 = .ok (.bipush 122, 2) := by decide +kernel
theorem dc_MD_name_133 : decode prog_9_method_14_code 133 = .ok (.if_icmp .le 7, 3) := by decide +kernel
theorem dc_MD_name_136 : decode prog_9_method_14_code 136 = .ok (.iconst 1, 1) := by decide +kernel
theorem dc_MD_name_137 : decode prog_9_method_14_code 137 = .ok (.goto 4, 3) := by decide +kernel
theorem dc_MD_name_140 : decode prog_9_method_14_code 140 = .ok (.iconst 0, 1) := by decide +kernel
theorem dc_MD_name_141 : decode prog_9_method_14_code 141 = .ok (.putfield 34, 3) := by decide +kernel
theorem dc_MD_name_144 : decode prog_9_method_14_code 144 = .ok (.iinc 4 1, 3) := by decide +kernel
theorem dc_MD_name_147 : decode prog_9_method_14_code 147 = .ok (.goto (-49), 3) := by decide +kernel
theorem dc_MD_name_150 : decode prog_9_method_14_code 150 = .ok (.aload_n 0, 1) := by decide +kernel
theorem dc_MD_name_151 : decode prog_9_method_14_code 151 = .ok (.iload_n 3, 1) := by decide +kernel
theorem dc_MD_name_152 : decode prog_9_method_14_code 152 = .ok (.putfield 38, 3) := by decide +kernel
theorem dc_MD_name_155 : decode prog_9_method_14_code 155 = .ok (.aload_n 0, 1) := by decide +kernel
theorem dc_MD_name_156 : decode prog_9_method_14_code 156 = .ok (.aload_n 0, 1) := by decide +kernel
theorem dc_MD_name_157 : decode prog_9_method_14_code 157 = .ok (.getfield 54, 3) := by decide +kernel
theorem dc_MD_name_160 : decode prog_9_method_14_code 160 = .ok (.iconst 1, 1) := by decide +kernel
theorem dc_MD_name_161 : decode prog_9_method_14_code 161 = .ok (.iadd, 1) := by decide +kernel
theorem dc_MD_name_162 : decode prog_9_method_14_code 162 = .ok (.putfield 54, 3) := by decide +kernel
theorem dc_MD_name_165 : decode prog_9_method_14_code 165 = .ok (.goto (-139), 3) := by decide +kernel
theorem dc_MD_name_168 : decode prog_9_method_14_code 168 = .ok (.return_, 1) := by decide +kernel
theorem dc_MD_usageBits_0 : decode prog_9_method_15_code 0 = .ok (.aload_n 0, 1) := by decide +kernel
theorem dc_MD_usageBits_1 : decode prog_9_method_15_code 1 = .ok (.iconst 3, 1) := by decide +kernel
theorem dc_MD_usageBits_2 : decode prog_9_method_15_code 2 = .ok (.iload_n 1, 1) := by decide +kernel
theorem dc_MD_usageBits_3 : decode prog_9_method_15_code 3 = .ok (.invokevirtual 45, 3) := by decide +kernel
theorem dc_MD_usageBits_6 : decode prog_9_method_15_code 6 = .ok (.istore_n 2, 1) := by decide +kernel
theorem dc_MD_usageBits_7 : decode prog_9_method_15_code 7 = .ok (.iload_n 2, 1) := by decide +kernel
theorem dc_MD_usageBits_8 : decode prog_9_method_15_code 8 = .ok (.aload_n 0, 1) := by decide +kernel
theorem dc_MD_usageBits_9 : decode prog_9_method_15_code 9 = .ok (.getfield 38, 3) := by decide +kernel
theorem dc_MD_usageBits_12 : decode prog_9_method_15_code 12 = .ok (.isub, 1) := by decide +kernel
theorem dc_MD_usageBits_13 : decode prog_9_method_15_code 13 = .ok (.istore_n 3, 1) := by decide +kernel
theorem dc_MD_usageBits_14 : decode prog_9_method_15_code 14 = .ok (.aload_n 0, 1) := by decide +kernel
theorem dc_MD_usageBits_15 : decode prog_9_method_15_code 15 = .ok (.iconst 0, 1) := by decide +kernel
theorem dc_MD_usageBits_16 : decode prog_9_method_15_code 16 = .ok (.putfield 57, 3) := by decide +kernel
theorem dc_MD_usageBits_19 : decode prog_9_method_15_code 19 = .ok (.aload_n 0, 1) := by decide +kernel
theorem dc_MD_usageBits_20 : decode prog_9_method_15_code 20 = .ok (.getfield 34, 3) := by decide +kernel
theorem dc_MD_usageBits_23 : decode prog_9_method_15_code 23 = .ok (.ifCond .ne 30, 3) := by decide +kernel
theorem dc_MD_usageBits_26 : decode prog_9_method_15_code 26 = .ok (.iload_n 3, 1) := by decide +kernel
theorem dc_MD_usageBits_27 : decode prog_9_method_15_code 27 = .ok (.iconst 1, 1) := by decide +kernel
theorem dc_MD_usageBits_28 : decode prog_9_method_15_code 28 = .ok (.if_icmp .lt 25, 3) := by decide +kernel
theorem dc_MD_usageBits_31 : decode prog_9_method_15_code 31 = .ok (.iload_n 3, 1) := by decide +kernel
theorem dc_MD_usageBits_32 : decode prog_9_method_15_code 32 = .ok (.iconst 2, 1) := by decide +kernel
theorem dc_MD_usageBits_33 : decode prog_9_method_15_code 33 = .ok (.if_icmp .gt 20, 3) := by decide +kernel
theorem dc_MD_usageBits_36 : decode prog_9_method_15_code 36 = .ok (.iload_n 3, 1) := by decide +kernel
theorem dc_MD_usageBits_37 : decode prog_9_method_15_code 37 = .ok (.iconst 1, 1) := by decide +kernel
theorem dc_MD_usageBits_38 : decode prog_9_method_15_code 38 = .ok (.if_icmp .ne 21, 3) := by decide +kernel
theorem dc_MD_usageBits_41 : decode prog_9_method_15_code 41 = .ok (.aload_n 0, 1) := by decide +kernel
theorem dc_MD_usageBits_42 : decode prog_9_method_15_code 42 = .ok (.getfield 7, 3) := by decide +kernel
theorem dc_MD_usageBits_45 : decode prog_9_method_15_code 45 = .ok (.aload_n 0, 1) := by decide +kernel
theorem dc_MD_usageBits_46 : decode prog_9_method_15_code 46 = .ok (.getfield 38, 3) := by decide +kernel
theorem dc_MD_usageBits_49 : decode prog_9_method_15_code 49 = .ok (.iaload, 1) := by decide +kernel
theorem dc_MD_usageBits_50 : decode prog_9_method_15_code 50 = .ok (.ifCond .eq 9, 3) := by decide +kernel
theorem dc_MD_usageBits_53 : decode prog_9_method_15_code 53 = .ok (.aload_n 0, 1) := by decide +kernel
theorem dc_MD_usageBits_54 : decode prog_9_method_15_code 54 = .ok (.iconst 1, 1) := by decide +kernel
theorem dc_MD_usageBits_55 : decode prog_9_method_15_code 55 = .ok (.putfield 34, 3) := by decide +kernel
theorem dc_MD_usageBits_58 : decode prog_9_method_15_code 58 = .ok (.return_, 1) := by decide +kernel
theorem dc_MD_usageBits_59 : decode prog_9_method_15_code 59 = .ok (.iload_n 3, 1) := by decide +kernel
theorem dc_MD_usageBits_60 : decode prog_9_method_15_code 60 = .ok (.iconst 2, 1) := by decide +kernel
theorem dc_MD_usageBits_61 : decode prog_9_method_15_code 61 = .ok (.if_icmp .ne 111, 3) := by decide +kernel
theorem dc_MD_usageBits_64 : decode prog_9_method_15_code 64 = .ok (.aload_n 0, 1) := by decide +kernel
theorem dc_MD_usageBits_65 : decode prog_9_method_15_code 65 = .ok (.getfield 7, 3) := by decide +kernel
theorem dc_MD_usageBits_68 : decode prog_9_method_15_code 68 = .ok (.aload_n 0, 1) := by decide +kernel
theorem dc_MD_usageBits_69 : decode prog_9_method_15_code 69 = .ok (.getfield 38, 3) := by decide +kernel
theorem dc_MD_usageBits_72 : decode prog_9_method_15_code 72 = .ok (.iconst 1, 1) := by decide +kernel
theorem dc_MD_usageBits_73 : decode prog_9_method_15_code 73 = .ok (.iadd, 1) := by decide +kernel
theorem dc_MD_usageBits_74 : decode prog_9_method_15_code 74 = .ok (.iaload, 1) := by decide +kernel
theorem dc_MD_usageBits_75 : decode prog_9_method_15_code 75 = .ok (.istore 4, 2) := by decide +kernel
theorem dc_MD_usageBits_77 : decode prog_9_method_15_code 77 = .ok (.iconst 0, 1) := by decide +kernel
theorem dc_MD_usageBits_78 : decode prog_9_method_15_code 78 = .ok (.istore 5, 2) := by decide +kernel
theorem dc_MD_usageBits_80 : decode prog_9_method_15_code 80 = .ok (.iload 5, 2) := by decide +kernel
theorem dc_MD_usageBits_82 : decode prog_9_method_15_code 82 = .ok (.bipush 8, 2) := by decide +kernel
theorem dc_MD_usageBits_84 : decode prog_9_method_15_code 84 = .ok (.if_icmp .ge 22, 3) := by decide +kernel
theorem dc_MD_usageBits_87 : decode prog_9_method_15_code 87 = .ok (.iload 4, 2) := by decide +kernel
theorem dc_MD_usageBits_89 : decode prog_9_method_15_code 89 = .ok (.iload 5, 2) := by decide +kernel
theorem dc_MD_usageBits_91 : decode prog_9_method_15_code 91 = .ok (.ishr, 1) := by decide +kernel
theorem dc_MD_usageBits_92 : decode prog_9_method_15_code 92 = .ok (.iconst 2, 1) := by decide +kernel
theorem dc_MD_usageBits_93 : decode prog_9_method_15_code 93 = .ok (.irem, 1) := by decide +kernel
theorem dc_MD_usageBits_94 : decode prog_9_method_15_code 94 = .ok (.ifCond .ne 12, 3) := by decide +kernel
theorem dc_MD_usageBits_97 : decode prog_9_method_15_code 97 = .ok (.iload 5, 2) := by decide +kernel
theorem dc_MD_usageBits_99 : decode prog_9_method_15_code 99 = .ok (.iconst 1, 1) := by decide +kernel
theorem dc_MD_usageBits_100 : decode prog_9_method_15_code 100 = .ok (.iadd, 1) := by decide +kernel
theorem dc_MD_usageBits_101 : decode prog_9_method_15_code 101 = .ok (.istore 5, 2) := by decide +kernel
theorem dc_MD_usageBits_103 : decode prog_9_method_15_code 103 = .ok (.goto (-23), 3) := by decide +kernel
theorem dc_MD_usageBits_106 : decode prog_9_method_15_code 106 = .ok (.aload_n 0, 1) := by decide +kernel
theorem dc_MD_usageBits_107 : decode prog_9_method_15_code 107 = .ok (.iload 4, 2) := by decide +kernel
theorem dc_MD_usageBits_109 : decode prog_9_method_15_code 109 = .ok (.ifCond .eq 17, 3) := by decide +kernel
theorem dc_MD_usageBits_112 : decode prog_9_method_15_code 112 = .ok (.aload_n 0, 1) := by decide +kernel
theorem dc_MD_usageBits_113 : decode prog_9_method_15_code 113 = .ok (.getfield 7, 3) := by decide +kernel
theorem dc_MD_usageBits_116 : decode prog_9_method_15_code 116 = .ok (.aload_n 0, 1) := by decide +kernel
theorem dc_MD_usageBits_117 : decode prog_9_method_15_code 117 = .ok (.getfield 38, 3) := by decide +kernel
theorem dc_MD_usageBits_120 : decode prog_9_method_15_code 120 = .ok (.iaload, 1) := by decide +kernel
theorem dc_MD_usageBits_121 : decode prog_9_method_15_code 121 = .ok (.iload 5, 2) := by decide +kernel
theorem dc_MD_usageBits_123 : decode prog_9_method_15_code 123 = .ok (.if_icmp .eq 7, 3) := by decide +kernel
theorem dc_MD_usageBits_126 : decode prog_9_method_15_code 126 = .ok (.iconst 1, 1) := by decide +kernel
theorem dc_MD_usageBits_127 : decode prog_9_method_15_code 127 = .ok (.goto 4, 3) := by decide +kernel
theorem dc_MD_usageBits_130 : decode prog_9_method_15_code 130 = .ok (.iconst 0, 1) := by decide +kernel
theorem dc_MD_usageBits_131 : decode prog_9_method_15_code 131 = .ok (.putfield 34, 3) := by decide +kernel
theorem dc_MD_usageBits_134 : decode prog_9_method_15_code 134 = .ok (.iconst 0, 1) := by decide +kernel
theorem dc_MD_usageBits_135 : decode prog_9_method_15_code 135 = .ok (.istore 6, 2) := by decide +kernel
theorem dc_MD_usageBits_137 : decode prog_9_method_15_code 137 = .ok (.iload 6, 2) := by decide +kernel
theorem dc_MD_usageBits_139 : decode prog_9_method_15_code 139 = .ok (.bipush 8, 2) := by decide +kernel
theorem dc_MD_usageBits_141 : decode prog_9_method_15_code 141 = .ok (.if_icmp .ge 31, 3) := by decide +kernel
theorem dc_MD_usageBits_144 : decode prog_9_method_15_code 144 = .ok (.aload_n 0, 1) := by decide +kernel
theorem dc_MD_usageBits_145 : decode prog_9_method_15_code 145 = .ok (.aload_n 0, 1) := by decide +kernel
theorem dc_MD_usageBits_146 : decode prog_9_method_15_code 146 = .ok (.getfield 57, 3) := by decide +kernel
theorem dc_MD_usageBits_149 : decode prog_9_method_15_code 149 = .ok (.iload 4, 2) := by decide +kernel
theorem dc_MD_usageBits_151 : decode prog_9_method_15_code 151 = .ok (.bipush 7, 2) := by decide +kernel
theorem dc_MD_usageBits_153 : decode prog_9_method_15_code 153 = .ok (.iload 6, 2) := by decide +kernel
theorem dc_MD_usageBits_155 : decode prog_9_method_15_code 155 = .ok (.isub, 1) := by decide +kernel
theorem dc_MD_usageBits_156 : decode prog_9_method_15_code 156 = .ok (.ishr, 1) := by decide +kernel
theorem dc_MD_usageBits_157 : decode prog_9_method_15_code 157 = .ok (.iconst 2, 1) := by decide +kernel
theorem dc_MD_usageBits_158 : decode prog_9_method_15_code 158 = .ok (.irem, 1) := by decide +kernel
theorem dc_MD_usageBits_159 : decode prog_9_method_15_code 159 = .ok (.iload 6, 2) := by decide +kernel
theorem dc_MD_usageBits_161 : decode prog_9_method_15_code 161 = .ok (.ishl, 1) := by decide +kernel
theorem dc_MD_usageBits_162 : decode prog_9_method_15_code 162 = .ok (.iadd, 1) := by decide +kernel
theorem dc_MD_usageBits_163 : decode prog_9_method_15_code 163 = .ok (.putfield 57, 3) := by decide +kernel
theorem dc_MD_usageBits_166 : decode prog_9_method_15_code 166 = .ok (.iinc 6 1, 3) := by decide +kernel
theorem dc_MD_usageBits_169 : decode prog_9_method_15_code 169 = .ok (.goto (-32), 3) := by decide +kernel
theorem dc_MD_usageBits_172 : decode prog_9_method_15_code 172 = .ok (.aload_n 0, 1) := by decide +kernel
theorem dc_MD_usageBits_173 : decode prog_9_method_15_code 173 = .ok (.iload_n 2, 1) := by decide +kernel
theorem dc_MD_usageBits_174 : decode prog_9_method_15_code 174 = .ok (.putfield 38, 3) := by decide +kernel
theorem dc_MD_usageBits_177 : decode prog_9_method_15_code 177 = .ok (.return_, 1) := by decide +kernel
theorem dc_MD_basicContent_0 : decode prog_9_method_16_code 0 = .ok (.aload_n 0, 1) := by decide +kernel
theorem dc_MD_basicContent_1 : decode prog_9_method_16_code 1 = .ok (.bipush 48, 2) := by decide +kernel
theorem dc_MD_basicContent_3 : decode prog_9_method_16_code 3 = .ok (.iload_n 1, 1) := by decide +kernel
theorem dc_MD_basicContent_4 : decode prog_9_method_16_code 4 = .ok (.invokevirtual 45, 3) := by decide +kernel
theorem dc_MD_basicContent_7 : decode prog_9_method_16_code 7 = .ok (.istore_n 2, 1) := by decide +kernel
theorem dc_MD_basicContent_8 : decode prog_9_method_16_code 8 = .ok (.aload_n 0, 1) := by decide +kernel
theorem dc_MD_basicContent_9 : decode prog_9_method_16_code 9 = .ok (.iconst 1, 1) := by decide +kernel
theorem dc_MD_basicContent_10 : decode prog_9_method_16_code 10 = .ok (.putfield 60, 3) := by decide +kernel
theorem dc_MD_basicContent_13 : decode prog_9_method_16_code 13 = .ok (.aload_n 0, 1) := by decide +kernel
theorem dc_MD_basicContent_14 : decode prog_9_method_16_code 14 = .ok (.aload_n 0, 1) := by decide +kernel
theorem dc_MD_basicContent_15 : decode prog_9_method_16_code 15 = .ok (.iload_n 2, 1) := by decide +kernel
theorem dc_MD_basicContent_16 : decode prog_9_method_16_code 16 = .ok (.invokevirtual 63, 3) := by decide +kernel
theorem dc_MD_basicContent_19 : decode prog_9_method_16_code 19 = .ok (.putfield 67, 3) := by decide +kernel
theorem dc_MD_basicContent_22 : decode prog_9_method_16_code 22 = .ok (.aload_n 0, 1) := by decide +kernel
theorem dc_MD_basicContent_23 : decode prog_9_method_16_code 23 = .ok (.getfield 67, 3) := by decide +kernel
theorem dc_MD_basicContent_26 : decode prog_9_method_16_code 26 = .ok (.ifCond .eq 27, 3) := by decide +kernel
theorem dc_MD_basicContent_29 : decode prog_9_method_16_code 29 = .ok (.aload_n 0, 1) := by decide +kernel
theorem dc_MD_basicContent_30 : decode prog_9_method_16_code 30 = .ok (.getfield 34, 3) := by decide +kernel
theorem dc_MD_basicContent_33 : decode prog_9_method_16_code 33 = .ok (.ifCond .ne 20, 3) := by decide +kernel
theorem dc_MD_basicContent_36 : decode prog_9_method_16_code 36 = .ok (.aload_n 0, 1) := by decide +kernel
theorem dc_MD_basicContent_37 : decode prog_9_method_16_code 37 = .ok (.getfield 38, 3) := by decide +kernel
theorem dc_MD_basicContent_40 : decode prog_9_method_16_code 40 = .ok (.iload_n 2, 1) := by decide +kernel
theorem dc_MD_basicContent_41 : decode prog_9_method_16_code 41 = .ok (.if_icmp .ge 12, 3) := by decide +kernel
theorem dc_MD_basicContent_44 : decode prog_9_method_16_code 44 = .ok (.aload_n 0, 1) := by decide +kernel
theorem dc_MD_basicContent_45 : decode prog_9_method_16_code 45 = .ok (.aload_n 0, 1) := by decide +kernel
theorem dc_MD_basicContent_46 : decode prog_9_method_16_code 46 = .ok (.iload_n 2, 1) := by decide +kernel
theorem dc_MD_basicContent_47 : decode prog_9_method_16_code 47 = .ok (.invokevirtual 70, 3) := by decide +kernel
theorem dc_MD_basicContent_50 : decode prog_9_method_16_code 50 = .ok (.putfield 74, 3) := by decide +kernel
theorem dc_MD_basicContent_53 : decode prog_9_method_16_code 53 = .ok (.aload_n 0, 1) := by decide +kernel
theorem dc_MD_basicContent_54 : decode prog_9_method_16_code 54 = .ok (.iload_n 2, 1) := by decide +kernel
theorem dc_MD_basicContent_55 : decode prog_9_method_16_code 55 = .ok (.invokevirtual 77, 3) := by decide +kernel
theorem dc_MD_basicContent_58 : decode prog_9_method_16_code 58 = .ok (.return_, 1) := by decide +kernel
theorem dc_MD_names_0 : decode prog_9_method_17_code 0 = .ok (.aload_n 0, 1) := by decide +kernel
theorem dc_MD_names_1 : decode prog_9_method_17_code 1 = .ok (.iload_n 1, 1) := by decide +kernel
theorem dc_MD_names_2 : decode prog_9_method_17_code 2 = .ok (.iload_n 2, 1) := by decide +kernel
theorem dc_MD_names_3 : decode prog_9_method_17_code 3 = .ok (.invokevirtual 45, 3) := by decide +kernel
theorem dc_MD_names_6 : decode prog_9_method_17_code 6 = .ok (.istore_n 3, 1) := by decide +kernel
theorem dc_MD_names_7 : decode prog_9_method_17_code 7 = .ok (.iconst 0, 1) := by decide +kernel
theorem dc_MD_names_8 : decode prog_9_method_17_code 8 = .ok (.istore 4, 2) := by decide +kernel
theorem dc_MD_names_10 : decode prog_9_method_17_code 10 = .ok (.aload_n 0, 1) := by decide +kernel
theorem dc_MD_names_11 : decode prog_9_method_17_code 11 = .ok (.getfield 34, 3) := by decide +kernel
theorem dc_MD_names_14 : decode prog_9_method_17_code 14 = .ok (.ifCond .ne 25, 3) := by decide +kernel
theorem dc_MD_names_17 : decode prog_9_method_17_code 17 = .ok (.aload_n 0, 1) := by decide +kernel
theorem dc_MD_names_18 : decode prog_9_method_17_code 18 = .ok (.getfield 38, 3) := by decide +kernel
theorem dc_MD_names_21 : decode prog_9_method_17_code 21 = .ok (.iload_n 3, 1) := by decide +kernel
theorem dc_MD_names_22 : decode prog_9_method_17_code 22 = .ok (.if_icmp .ge 17, 3) := by decide +kernel
theorem dc_MD_names_25 : decode prog_9_method_17_code 25 = .ok (.aload_n 0, 1) := by decide +kernel
theorem dc_MD_names_26 : decode prog_9_method_17_code 26 = .ok (.iload_n 3, 1) := by decide +kernel
theorem dc_MD_names_27 : decode prog_9_method_17_code 27 = .ok (.invokevirtual 81, 3) := by decide +kernel
theorem dc_MD_names_30 : decode prog_9_method_17_code 30 = .ok (.iload 4, 2) := by decide +kernel
theorem dc_MD_names_32 : decode prog_9_method_17_code 32 = .ok (.iconst 1, 1) := by decide +kernel
theorem dc_MD_names_33 : decode prog_9_method_17_code 33 = .ok (.iadd, 1) := by decide +kernel
theorem dc_MD_names_34 : decode prog_9_method_17_code 34 = .ok (.istore 4, 2) := by decide +kernel
theorem dc_MD_names_36 : decode prog_9_method_17_code 36 = .ok (.goto (-26), 3) := by decide +kernel
theorem dc_MD_names_39 : decode prog_9_method_17_code 39 = .ok (.aload_n 0, 1) := by decide +kernel
theorem dc_MD_names_40 : decode prog_9_method_17_code 40 = .ok (.aload_n 0, 1) := by decide +kernel
theorem dc_MD_names_41 : decode prog_9_method_17_code 41 = .ok (.getfield 34, 3) := by decide +kernel
theorem dc_MD_names_44 : decode prog_9_method_17_code 44 = .ok (.ifCond .ne 15, 3) := by decide +kernel
theorem dc_MD_names_47 : decode prog_9_method_17_code 47 = .ok (.iload 4, 2) := by decide +kernel
theorem dc_MD_names_49 : decode prog_9_method_17_code 49 = .ok (.iconst 1, 1) := by decide +kernel
theorem dc_MD_names_50 : decode prog_9_method_17_code 50 = .ok (.if_icmp .lt 9, 3) := by decide +kernel
theorem dc_MD_names_53 : decode prog_9_method_17_code 53 = .ok (.iload 4, 2) := by decide +kernel
theorem dc_MD_names_55 : decode prog_9_method_17_code 55 = .ok (.iconst 3, 1) := by decide +kernel
theorem dc_MD_names_56 : decode prog_9_method_17_code 56 = .ok (.if_icmp .le 7, 3) := by decide +kernel
theorem dc_MD_names_59 : decode prog_9_method_17_code 59 = .ok (.iconst 1, 1) := by decide +kernel
theorem dc_MD_names_60 : decode prog_9_method_17_code 60 = .ok (.goto 4, 3) := by decide +kernel
theorem dc_MD_names_63 : decode prog_9_method_17_code 63 = .ok (.iconst 0, 1) := by decide +kernel
theorem dc_MD_names_64 : decode prog_9_method_17_code 64 = .ok (.putfield 34, 3) := by decide +kernel
theorem dc_MD_names_67 : decode prog_9_method_17_code 67 = .ok (.iload 4, 2) := by decide +kernel
theorem dc_MD_names_69 : decode prog_9_method_17_code 69 = .ok (.ireturn, 1) := by decide +kernel
theorem dc_MD_bounds_0 : decode prog_9_method_18_code 0 = .ok (.aload_n 0, 1) := by decide +kernel
theorem dc_MD_bounds_1 : decode prog_9_method_18_code 1 = .ok (.bipush 48, 2) := by decide +kernel
theorem dc_MD_bounds_3 : decode prog_9_method_18_code 3 = .ok (.iload_n 1, 1) := by decide +kernel
theorem dc_MD_bounds_4 : decode prog_9_method_18_code 4 = .ok (.invokevirtual 45, 3) := by decide +kernel
theorem dc_MD_bounds_7 : decode prog_9_method_18_code 7 = .ok (.istore_n 2, 1) := by decide +kernel
theorem dc_MD_bounds_8 : decode prog_9_method_18_code 8 = .ok (.aload_n 0, 1) := by decide +kernel
theorem dc_MD_bounds_9 : decode prog_9_method_18_code 9 = .ok (.sipush 160, 3) := by decide +kernel
theorem dc_MD_bounds_12 : decode prog_9_method_18_code 12 = .ok (.iload_n 2, 1) := by decide +kernel
theorem dc_MD_bounds_13 : decode prog_9_method_18_code 13 = .ok (.invokevirtual 41, 3) := by decide +kernel
theorem dc_MD_bounds_16 : decode prog_9_method_18_code 16 = .ok (.ifCond .eq 33, 3) := by decide +kernel
theorem dc_MD_bounds_19 : decode prog_9_method_18_code 19 = .ok (.aload_n 0, 1) := by decide +kernel
theorem dc_MD_bounds_20 : decode prog_9_method_18_code 20 = .ok (.aload_n 0, 1) := by decide +kernel
theorem dc_MD_bounds_21 : decode prog_9_method_18_code 21 = .ok (.getfield 38, 3) := by decide +kernel
theorem dc_MD_bounds_24 : decode prog_9_method_18_code 24 = .ok (.iconst 2, 1) := by decide +kernel
theorem dc_MD_bounds_25 : decode prog_9_method_18_code 25 = .ok (.iadd, 1) := by decide +kernel
theorem dc_MD_bounds_26 : decode prog_9_method_18_code 26 = .ok (.putfield 84, 3) := by decide +kernel
theorem dc_MD_bounds_29 : decode prog_9_method_18_code 29 = .ok (.aload_n 0, 1) := by decide +kernel
theorem dc_MD_bounds_30 : decode prog_9_method_18_code 30 = .ok (.aload_n 0, 1) := by decide +kernel
theorem dc_MD_bounds_31 : decode prog_9_method_18_code 31 = .ok (.sipush 160, 3) := by decide +kernel
theorem dc_MD_bounds_34 : decode prog_9_method_18_code 34 = .ok (.iload_n 2, 1) := by decide +kernel
theorem dc_MD_bounds_35 : decode prog_9_method_18_code 35 = .ok (.invokevirtual 87, 3) := by decide +kernel
theorem dc_MD_bounds_38 : decode prog_9_method_18_code 38 = .ok (.putfield 90, 3) := by decide +kernel
theorem dc_MD_bounds_41 : decode prog_9_method_18_code 41 = .ok (.aload_n 0, 1) := by decide +kernel
theorem dc_MD_bounds_42 : decode prog_9_method_18_code 42 = .ok (.aload_n 0, 1) := by decide +kernel
theorem dc_MD_bounds_43 : decode prog_9_method_18_code 43 = .ok (.getfield 38, 3) := by decide +kernel
theorem dc_MD_bounds_46 : decode prog_9_method_18_code 46 = .ok (.putfield 93, 3) := by decide +kernel
theorem dc_MD_bounds_49 : decode prog_9_method_18_code 49 = .ok (.aload_n 0, 1) := by decide +kernel
theorem dc_MD_bounds_50 : decode prog_9_method_18_code 50 = .ok (.sipush 161, 3) := by decide +kernel
theorem dc_MD_bounds_53 : decode prog_9_method_18_code 53 = .ok (.iload_n 2, 1) := by decide +kernel
theorem dc_MD_bounds_54 : decode prog_9_method_18_code 54 = .ok (.invokevirtual 41, 3) := by decide +kernel
theorem dc_MD_bounds_57 : decode prog_9_method_18_code 57 = .ok (.ifCond .eq 33, 3) := by decide +kernel
theorem dc_MD_bounds_60 : decode prog_9_method_18_code 60 = .ok (.aload_n 0, 1) := by decide +kernel
theorem dc_MD_bounds_61 : decode prog_9_method_18_code 61 = .ok (.aload_n 0, 1) := by decide +kernel
theorem dc_MD_bounds_62 : decode prog_9_method_18_code 62 = .ok (.getfield 38, 3) := by decide +kernel
theorem dc_MD_bounds_65 : decode prog_9_method_18_code 65 = .ok (.iconst 2, 1) := by decide +kernel
theorem dc_MD_bounds_66 : decode prog_9_method_18_code 66 = .ok (.iadd, 1) := by decide +kernel
theorem dc_MD_bounds_67 : decode prog_9_method_18_code 67 = .ok (.putfield 96, 3) := by decide +kernel
theorem dc_MD_bounds_70 : decode prog_9_method_18_code 70 = .ok (.aload_n 0, 1) := by decide +kernel
theorem dc_MD_bounds_71 : decode prog_9_method_18_code 71 = .ok (.aload_n 0, 1) := by decide +kernel
theorem dc_MD_bounds_72 : decode prog_9_method_18_code 72 = .ok (.sipush 161, 3) := by decide +kernel
theorem dc_MD_bounds_75 : decode prog_9_method_18_code 75 = .ok (.iload_n 2, 1) := by decide +kernel
theorem dc_MD_bounds_76 : decode prog_9_method_18_code 76 = .ok (.invokevirtual 87, 3) := by decide +kernel
theorem dc_MD_bounds_79 : decode prog_9_method_18_code 79 = .ok (.putfield 99, 3) := by decide +kernel
theorem dc_MD_bounds_82 : decode prog_9_method_18_code 82 = .ok (.aload_n 0, 1) := by decide +kernel
theorem dc_MD_bounds_83 : decode prog_9_method_18_code 83 = .ok (.aload_n 0, 1) := by decide +kernel
theorem dc_MD_bounds_84 : decode prog_9_method_18_code 84 = .ok (.getfield 38, 3) := by decide +kernel
theorem dc_MD_bounds_87 : decode prog_9_method_18_code 87 = .ok (.putfield 102, 3) := by decide +kernel
theorem dc_MD_bounds_90 : decode prog_9_method_18_code 90 = .ok (.aload_n 0, 1) := by decide +kernel
theorem dc_MD_bounds_91 : decode prog_9_method_18_code 91 = .ok (.aload_n 0, 1) := by decide +kernel
theorem dc_MD_bounds_92 : decode prog_9_method_18_code 92 = .ok (.getfield 34, 3) := by decide +kernel
theorem dc_MD_bounds_95 : decode prog_9_method_18_code 95 = .ok (.ifCond .ne 15, 3) := by decide +kernel
theorem dc_MD_bounds_98 : decode prog_9_method_18_code 98 = .ok (.aload_n 0, 1) := by decide +kernel
theorem dc_MD_bounds_99 : decode prog_9_method_18_code 99 = .ok (.getfield 90, 3) := by decide +kernel
theorem dc_MD_bounds_102 : decode prog_9_method_18_code 102 = .ok (.aload_n 0, 1) := by decide +kernel
theorem dc_MD_bounds_103 : decode prog_9_method_18_code 103 = .ok (.getfield 99, 3) := by decide +kernel
theorem dc_MD_bounds_106 : decode prog_9_method_18_code 106 = .ok (.iadd, 1) := by decide +kernel
theorem dc_MD_bounds_107 : decode prog_9_method_18_code 107 = .ok (.ifCond .ne 7, 3) := by decide +kernel
theorem dc_MD_bounds_110 : decode prog_9_method_18_code 110 = .ok (.iconst 1, 1) := by decide +kernel
theorem dc_MD_bounds_111 : decode prog_9_method_18_code 111 = .ok (.goto 4, 3) := by decide +kernel
theorem dc_MD_bounds_114 : decode prog_9_method_18_code 114 = .ok (.iconst 0, 1) := by decide +kernel
theorem dc_MD_bounds_115 : decode prog_9_method_18_code 115 = .ok (.putfield 34, 3) := by decide +kernel
theorem dc_MD_bounds_118 : decode prog_9_method_18_code 118 = .ok (.aload_n 0, 1) := by decide +kernel
theorem dc_MD_bounds_119 : decode prog_9_method_18_code 119 = .ok (.iload_n 2, 1) := by decide +kernel
theorem dc_MD_bounds_120 : decode prog_9_method_18_code 120 = .ok (.invokevirtual 77, 3) := by decide +kernel
theorem dc_MD_bounds_123 : decode prog_9_method_18_code 123 = .ok (.return_, 1) := by decide +kernel
theorem dc_MD_extension_0 : decode prog_9_method_19_code 0 = .ok (.aload_n 0, 1) := by decide +kernel
theorem dc_MD_extension_1 : decode prog_9_method_19_code 1 = .ok (.bipush 48, 2) := by decide +kernel
theorem dc_MD_extension_3 : decode prog_9_method_19_code 3 = .ok (.iload_n 1, 1) := by decide +kernel
theorem dc_MD_extension_4 : decode prog_9_method_19_code 4 = .ok (.invokevirtual 45, 3) := by decide +kernel
theorem dc_MD_extension_7 : decode prog_9_method_19_code 7 = .ok (.istore_n 2, 1) := by decide +kernel
theorem dc_MD_extension_8 : decode prog_9_method_19_code 8 = .ok (.aload_n 0, 1) := by decide +kernel
theorem dc_MD_extension_9 : decode prog_9_method_19_code 9 = .ok (.iload_n 2, 1) := by decide +kernel
theorem dc_MD_extension_10 : decode prog_9_method_19_code 10 = .ok (.invokevirtual 70, 3) := by decide +kernel
theorem dc_MD_extension_13 : decode prog_9_method_19_code 13 = .ok (.istore_n 3, 1) := by decide +kernel
theorem dc_MD_extension_14 : decode prog_9_method_19_code 14 = .ok (.aload_n 0, 1) := by decide +kernel
theorem dc_MD_extension_15 : decode prog_9_method_19_code 15 = .ok (.aload_n 0, 1) := by decide +kernel
theorem dc_MD_extension_16 : decode prog_9_method_19_code 16 = .ok (.getfield 34, 3) := by decide +kernel
theorem dc_MD_extension_19 : decode prog_9_method_19_code 19 = .ok (.ifCond .ne 18, 3) := by decide +kernel
theorem dc_MD_extension_22 : decode prog_9_method_19_code 22 = .ok (.iload_n 3, 1) := by decide +kernel
theorem dc_MD_extension_23 : decode prog_9_method_19_code 23 = .ok (.sipush 255, 3) := by decide +kernel
theorem dc_MD_extension_26 : decode prog_9_method_19_code 26 = .ok (.if_icmp .gt 11, 3) := by decide +kernel
theorem dc_MD_extension_29 : decode prog_9_method_19_code 29 = .ok (.aload_n 0, 1) := by decide +kernel
theorem dc_MD_extension_30 : decode prog_9_method_19_code 30 = .ok (.getfield 105, 3) := by decide +kernel
theorem dc_MD_extension_33 : decode prog_9_method_19_code 33 = .ok (.iconst 4, 1) := by decide +kernel
theorem dc_MD_extension_34 : decode prog_9_method_19_code 34 = .ok (.if_icmp .ne 7, 3) := by decide +kernel
theorem dc_MD_extension_37 : decode prog_9_method_19_code 37 = .ok (.iconst 1, 1) := by decide +kernel
theorem dc_MD_extension_38 : decode prog_9_method_19_code 38 = .ok (.goto 4, 3) := by decide +kernel
theorem dc_MD_extension_41 : decode prog_9_method_19_code 41 = .ok (.iconst 0, 1) := by decide +kernel
theorem dc_MD_extension_42 : decode prog_9_method_19_code 42 = .ok (.putfield 34, 3) := by decide +kernel
theorem dc_MD_extension_45 : decode prog_9_method_19_code 45 = .ok (.iconst 0, 1) := by decide +kernel
theorem dc_MD_extension_46 : decode prog_9_method_19_code 46 = .ok (.istore 4, 2) := by decide +kernel
theorem dc_MD_extension_48 : decode prog_9_method_19_code 48 = .ok (.iload 4, 2) := by decide +kernel
theorem dc_MD_extension_50 : decode prog_9_method_19_code 50 = .ok (.aload_n 0, 1) := by decide +kernel
theorem dc_MD_extension_51 : decode prog_9_method_19_code 51 = .ok (.getfield 105, 3) := by decide +kernel
theorem dc_MD_extension_54 : decode prog_9_method_19_code 54 = .ok (.if_icmp .ge 36, 3) := by decide +kernel
theorem dc_MD_extension_57 : decode prog_9_method_19_code 57 = .ok (.aload_n 0, 1) := by decide +kernel
theorem dc_MD_extension_58 : decode prog_9_method_19_code 58 = .ok (.getfield 34, 3) := by decide +kernel
theorem dc_MD_extension_61 : decode prog_9_method_19_code 61 = .ok (.ifCond .ne 29, 3) := by decide +kernel
theorem dc_MD_extension_64 : decode prog_9_method_19_code 64 = .ok (.aload_n 0, 1) := by decide +kernel
theorem dc_MD_extension_65 : decode prog_9_method_19_code 65 = .ok (.aload_n 0, 1) := by decide +kernel
theorem dc_MD_extension_66 : decode prog_9_method_19_code 66 = .ok (.getfield 19, 3) := by decide +kernel
theorem dc_MD_extension_69 : decode prog_9_method_19_code 69 = .ok (.iload 4, 2) := by decide +kernel
theorem dc_MD_extension_71 : decode prog_9_method_19_code 71 = .ok (.iaload, 1) := by decide +kernel
theorem dc_MD_extension_72 : decode prog_9_method_19_code 72 = .ok (.iload_n 3, 1) := by decide +kernel
theorem dc_MD_extension_73 : decode prog_9_method_19_code 73 = .ok (.if_icmp .ne 7, 3) := by decide +kernel
theorem dc_MD_extension_76 : decode prog_9_method_19_code 76 = .ok (.iconst 1, 1) := by decide +kernel
theorem dc_MD_extension_77 : decode prog_9_method_19_code 77 = .ok (.goto 4, 3) := by decide +kernel
theorem dc_MD_extension_80 : decode prog_9_method_19_code 80 = .ok (.iconst 0, 1) := by decide +kernel
theorem dc_MD_extension_81 : decode prog_9_method_19_code 81 = .ok (.putfield 34, 3) := by decide +kernel
theorem dc_MD_extension_84 : decode prog_9_method_19_code 84 = .ok (.iinc 4 1, 3) := by decide +kernel
theorem dc_MD_extension_87 : decode prog_9_method_19_code 87 = .ok (.goto (-39), 3) := by decide +kernel
theorem dc_MD_extension_90 : decode prog_9_method_19_code 90 = .ok (.aload_n 0, 1) := by decide +kernel
theorem dc_MD_extension_91 : decode prog_9_method_19_code 91 = .ok (.getfield 34, 3) := by decide +kernel
theorem dc_MD_extension_94 : decode prog_9_method_19_code 94 = .ok (.ifCond .eq 4, 3) := by decide +kernel
theorem dc_MD_extension_97 : decode prog_9_method_19_code 97 = .ok (.return_, 1) := by decide +kernel
theorem dc_MD_extension_98 : decode prog_9_method_19_code 98 = .ok (.aload_n 0, 1) := by decide +kernel
theorem dc_MD_extension_99 : decode prog_9_method_19_code 99 = .ok (.getfield 19, 3) := by decide +kernel
theorem dc_MD_extension_102 : decode prog_9_method_19_code 102 = .ok (.aload_n 0, 1) := by decide +kernel
theorem dc_MD_extension_103 : decode prog_9_method_19_code 103 = .ok (.getfield 105, 3) := by decide +kernel
theorem dc_MD_extension_106 : decode prog_9_method_19_code 106 = .ok (.iload_n 3, 1) := by decide +kernel
theorem dc_MD_extension_107 : decode prog_9_method_19_code 107 = .ok (.iastore, 1) := by decide +kernel
theorem dc_MD_extension_108 : decode prog_9_method_19_code 108 = .ok (.aload_n 0, 1) := by decide +kernel
theorem dc_MD_extension_109 : decode prog_9_method_19_code 109 = .ok (.aload_n 0, 1) := by decide +kernel
theorem dc_MD_extension_110 : decode prog_9_method_19_code 110 = .ok (.getfield 105, 3) := by decide +kernel
theorem dc_MD_extension_113 : decode prog_9_method_19_code 113 = .ok (.iconst 1, 1) := by decide +kernel
theorem dc_MD_extension_114 : decode prog_9_method_19_code 114 = .ok (.iadd, 1) := by decide +kernel
theorem dc_MD_extension_115 : decode prog_9_method_19_code 115 = .ok (.putfield 105, 3) := by decide +kernel
theorem dc_MD_extension_118 : decode prog_9_method_19_code 118 = .ok (.aload_n 0, 1) := by decide +kernel
theorem dc_MD_extension_119 : decode prog_9_method_19_code 119 = .ok (.iload_n 2, 1) := by decide +kernel
theorem dc_MD_extension_120 : decode prog_9_method_19_code 120 = .ok (.invokevirtual 63, 3) := by decide +kernel
theorem dc_MD_extension_123 : decode prog_9_method_19_code 123 = .ok (.istore 4, 2) := by decide +kernel
theorem dc_MD_extension_125 : decode prog_9_method_19_code 125 = .ok (.aload_n 0, 1) := by decide +kernel
theorem dc_MD_extension_126 : decode prog_9_method_19_code 126 = .ok (.aload_n 0, 1) := by decide +kernel
theorem dc_MD_extension_127 : decode prog_9_method_19_code 127 = .ok (.getfield 108, 3) := by decide +kernel
theorem dc_MD_extension_130 : decode prog_9_method_19_code 130 = .ok (.ifCond .ne 18, 3) := by decide +kernel
theorem dc_MD_extension_133 : decode prog_9_method_19_code 133 = .ok (.iload 4, 2) := by decide +kernel
theorem dc_MD_extension_135 : decode prog_9_method_19_code 135 = .ok (.ifCond .eq 17, 3) := by decide +kernel
theorem dc_MD_extension_138 : decode prog_9_method_19_code 138 = .ok (.iload_n 3, 1) := by decide +kernel
theorem dc_MD_extension_139 : decode prog_9_method_19_code 139 = .ok (.iconst 1, 1) := by decide +kernel
theorem dc_MD_extension_140 : decode prog_9_method_19_code 140 = .ok (.if_icmp .lt 8, 3) := by decide +kernel
theorem dc_MD_extension_143 : decode prog_9_method_19_code 143 = .ok (.iload_n 3, 1) := by decide +kernel
theorem dc_MD_extension_144 : decode prog_9_method_19_code 144 = .ok (.iconst 3, 1) := by decide +kernel
theorem dc_MD_extension_145 : decode prog_9_method_19_code 145 = .ok (.if_icmp .le 7, 3) := by decide +kernel
theorem dc_MD_extension_148 : decode prog_9_method_19_code 148 = .ok (.iconst 1, 1) := by decide +kernel
theorem dc_MD_extension_149 : decode prog_9_method_19_code 149 = .ok (.goto 4, 3) := by decide +kernel
theorem dc_MD_extension_152 : decode prog_9_method_19_code 152 = .ok (.iconst 0, 1) := by decide +kernel
theorem dc_MD_extension_153 : decode prog_9_method_19_code 153 = .ok (.putfield 108, 3) := by decide +kernel
theorem dc_MD_extension_156 : decode prog_9_method_19_code 156 = .ok (.aload_n 0, 1) := by decide +kernel
theorem dc_MD_extension_157 : decode prog_9_method_19_code 157 = .ok (.iconst 4, 1) := by decide +kernel
theorem dc_MD_extension_158 : decode prog_9_method_19_code 158 = .ok (.iload_n 2, 1) := by decide +kernel
theorem dc_MD_extension_159 : decode prog_9_method_19_code 159 = .ok (.invokevirtual 45, 3) := by decide +kernel
theorem dc_MD_extension_162 : decode prog_9_method_19_code 162 = .ok (.istore 5, 2) := by decide +kernel
theorem dc_MD_extension_164 : decode prog_9_method_19_code 164 = .ok (.iload_n 3, 1) := by decide +kernel
theorem dc_MD_extension_165 : decode prog_9_method_19_code 165 = .ok (.iconst 1, 1) := by decide +kernel
theorem dc_MD_extension_166 : decode prog_9_method_19_code 166 = .ok (.if_icmp .ne 12, 3) := by decide +kernel
theorem dc_MD_extension_169 : decode prog_9_method_19_code 169 = .ok (.aload_n 0, 1) := by decide +kernel
theorem dc_MD_extension_170 : decode prog_9_method_19_code 170 = .ok (.iload 5, 2) := by decide +kernel
theorem dc_MD_extension_172 : decode prog_9_method_19_code 172 = .ok (.invokevirtual 111, 3) := by decide +kernel
theorem dc_MD_extension_175 : decode prog_9_method_19_code 175 = .ok (.goto 65, 3) := by decide +kernel
theorem dc_MD_extension_178 : decode prog_9_method_19_code 178 = .ok (.iload_n 3, 1) := by decide +kernel
theorem dc_MD_extension_179 : decode prog_9_method_19_code 179 = .ok (.iconst 2, 1) := by decide +kernel
theorem dc_MD_extension_180 : decode prog_9_method_19_code 180 = .ok (.if_icmp .ne 12, 3) := by decide +kernel
theorem dc_MD_extension_183 : decode prog_9_method_19_code 183 = .ok (.aload_n 0, 1) := by decide +kernel
theorem dc_MD_extension_184 : decode prog_9_method_19_code 184 = .ok (.iload 5, 2) := by decide +kernel
theorem dc_MD_extension_186 : decode prog_9_method_19_code 186 = .ok (.invokevirtual 114, 3) := by decide +kernel
theorem dc_MD_extension_189 : decode prog_9_method_19_code 189 = .ok (.goto 51, 3) := by decide +kernel
theorem dc_MD_extension_192 : decode prog_9_method_19_code 192 = .ok (.iload_n 3, 1) := by decide +kernel
theorem dc_MD_extension_193 : decode prog_9_method_19_code 193 = .ok (.iconst 3, 1) := by decide +kernel
theorem dc_MD_extension_194 : decode prog_9_method_19_code 194 = .ok (.if_icmp .ne 12, 3) := by decide +kernel
theorem dc_MD_extension_197 : decode prog_9_method_19_code 197 = .ok (.aload_n 0, 1) := by decide +kernel
theorem dc_MD_extension_198 : decode prog_9_method_19_code 198 = .ok (.iload 5, 2) := by decide +kernel
theorem dc_MD_extension_200 : decode prog_9_method_19_code 200 = .ok (.invokevirtual 117, 3) := by decide +kernel
theorem dc_MD_extension_203 : decode prog_9_method_19_code 203 = .ok (.goto 37, 3) := by decide +kernel
theorem dc_MD_extension_206 : decode prog_9_method_19_code 206 = .ok (.aload_n 0, 1) := by decide +kernel
theorem dc_MD_extension_207 : decode prog_9_method_19_code 207 = .ok (.aload_n 0, 1) := by decide +kernel
theorem dc_MD_extension_208 : decode prog_9_method_19_code 208 = .ok (.getfield 34, 3) := by decide +kernel
theorem dc_MD_extension_211 : decode prog_9_method_19_code 211 = .ok (.ifCond .ne 15, 3) := by decide +kernel
theorem dc_MD_extension_214 : decode prog_9_method_19_code 214 = .ok (.iload 5, 2) := by decide +kernel
theorem dc_MD_extension_216 : decode prog_9_method_19_code 216 = .ok (.aload_n 0, 1) := by decide +kernel
theorem dc_MD_extension_217 : decode prog_9_method_19_code 217 = .ok (.getfield 38, 3) := by decide +kernel
theorem dc_MD_extension_220 : decode prog_9_method_19_code 220 = .ok (.isub, 1) := by decide +kernel
theorem dc_MD_extension_221 : decode prog_9_method_19_code 221 = .ok (.bipush 20, 2) := by decide +kernel
theorem dc_MD_extension_223 : decode prog_9_method_19_code 223 = .ok (.if_icmp .le 7, 3) := by decide +kernel
theorem dc_MD_extension_226 : decode prog_9_method_19_code 226 = .ok (.iconst 1, 1) := by decide +kernel
theorem dc_MD_extension_227 : decode prog_9_method_19_code 227 = .ok (.goto 4, 3) := by decide +kernel
theorem dc_MD_extension_230 : decode prog_9_method_19_code 230 = .ok (.iconst 0, 1) := by decide +kernel
theorem dc_MD_extension_231 : decode prog_9_method_19_code 231 = .ok (.putfield 34, 3) := by decide +kernel
theorem dc_MD_extension_234 : decode prog_9_method_19_code 234 = .ok (.aload_n 0, 1) := by decide +kernel
theorem dc_MD_extension_235 : decode prog_9_method_19_code 235 = .ok (.iload 5, 2) := by decide +kernel
theorem dc_MD_extension_237 : decode prog_9_method_19_code 237 = .ok (.putfield 38, 3) := by decide +kernel
theorem dc_MD_extension_240 : decode prog_9_method_19_code 240 = .ok (.aload_n 0, 1) := by decide +kernel
theorem dc_MD_extension_241 : decode prog_9_method_19_code 241 = .ok (.iload 5, 2) := by decide +kernel
theorem dc_MD_extension_243 : decode prog_9_method_19_code 243 = .ok (.invokevirtual 77, 3) := by decide +kernel
theorem dc_MD_extension_246 : decode prog_9_method_19_code 246 = .ok (.aload_n 0, 1) := by decide +kernel
theorem dc_MD_extension_247 : decode prog_9_method_19_code 247 = .ok (.iload_n 2, 1) := by decide +kernel
theorem dc_MD_extension_248 : decode prog_9_method_19_code 248 = .ok (.invokevirtual 77, 3) := by decide +kernel
theorem dc_MD_extension_251 : decode prog_9_method_19_code 251 = .ok (.return_, 1) := by decide +kernel
theorem dc_MD_key_0 : decode prog_9_method_20_code 0 = .ok (.aload_n 0, 1) := by decide +kernel
theorem dc_MD_key_1 : decode prog_9_method_20_code 1 = .ok (.bipush 48, 2) := by decide +kernel
theorem dc_MD_key_3 : decode prog_9_method_20_code 3 = .ok (.iload_n 1, 1) := by decide +kernel
theorem dc_MD_key_4 : decode prog_9_method_20_code 4 = .ok (.invokevirtual 45, 3) := by decide +kernel
theorem dc_MD_key_7 : decode prog_9_method_20_code 7 = .ok (.istore_n 2, 1) := by decide +kernel
theorem dc_MD_key_8 : decode prog_9_method_20_code 8 = .ok (.aload_n 0, 1) := by decide +kernel
theorem dc_MD_key_9 : decode prog_9_method_20_code 9 = .ok (.aload_n 0, 1) := by decide +kernel
theorem dc_MD_key_10 : decode prog_9_method_20_code 10 = .ok (.iload_n 2, 1) := by decide +kernel
theorem dc_MD_key_11 : decode prog_9_method_20_code 11 = .ok (.invokevirtual 70, 3) := by decide +kernel
theorem dc_MD_key_14 : decode prog_9_method_20_code 14 = .ok (.putfield 120, 3) := by decide +kernel
theorem dc_MD_key_17 : decode prog_9_method_20_code 17 = .ok (.aload_n 0, 1) := by decide +kernel
theorem dc_MD_key_18 : decode prog_9_method_20_code 18 = .ok (.aload_n 0, 1) := by decide +kernel
theorem dc_MD_key_19 : decode prog_9_method_20_code 19 = .ok (.iload_n 2, 1) := by decide +kernel
theorem dc_MD_key_20 : decode prog_9_method_20_code 20 = .ok (.invokevirtual 70, 3) := by decide +kernel
theorem dc_MD_key_23 : decode prog_9_method_20_code 23 = .ok (.putfield 123, 3) := by decide +kernel
theorem dc_MD_key_26 : decode prog_9_method_20_code 26 = .ok (.aload_n 0, 1) := by decide +kernel
theorem dc_MD_key_27 : decode prog_9_method_20_code 27 = .ok (.iload_n 2, 1) := by decide +kernel
theorem dc_MD_key_28 : decode prog_9_method_20_code 28 = .ok (.invokevirtual 77, 3) := by decide +kernel
theorem dc_MD_key_31 : decode prog_9_method_20_code 31 = .ok (.aload_n 0, 1) := by decide +kernel
theorem dc_MD_key_32 : decode prog_9_method_20_code 32 = .ok (.aload_n 0, 1) := by decide +kernel
theorem dc_MD_key_33 : decode prog_9_method_20_code 33 = .ok (.getfield 34, 3) := by decide +kernel
theorem dc_MD_key_36 : decode prog_9_method_20_code 36 = .ok (.ifCond .ne 29, 3) := by decide +kernel
theorem dc_MD_key_39 : decode prog_9_method_20_code 39 = .ok (.aload_n 0, 1) := by decide +kernel
theorem dc_MD_key_40 : decode prog_9_method_20_code 40 = .ok (.getfield 120, 3) := by decide +kernel
theorem dc_MD_key_43 : decode prog_9_method_20_code 43 = .ok (.iconst 2, 1) := by decide +kernel
theorem dc_MD_key_44 : decode prog_9_method_20_code 44 = .ok (.if_icmp .lt 21, 3) := by decide +kernel
theorem dc_MD_key_47 : decode prog_9_method_20_code 47 = .ok (.aload_n 0, 1) := by decide +kernel
theorem dc_MD_key_48 : decode prog_9_method_20_code 48 = .ok (.getfield 123, 3) := by decide +kernel
theorem dc_MD_key_51 : decode prog_9_method_20_code 51 = .ok (.iconst 1, 1) := by decide +kernel
