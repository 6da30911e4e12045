/-! what each instruction is -/
theorem dc_CP_init_0 : decode prog_1_method_1_code 0 = .ok (.aload_n 0, 1) := by decide +kernel
theorem dc_CP_init_1 : decode prog_1_method_1_code 1 = .ok (.invokespecial 1, 3) := by decide +kernel
theorem dc_CP_init_4 : decode prog_1_method_1_code 4 = .ok (.aload_n 0, 1) := by decide +kernel
theorem dc_CP_init_5 : decode prog_1_method_1_code 5 = .ok (.new 7, 3) := by decide +kernel
theorem dc_CP_init_8 : decode prog_1_method_1_code 8 = .ok (.dup, 1) := by decide +kernel
theorem dc_CP_init_9 : decode prog_1_method_1_code 9 = .ok (.invokespecial 9, 3) := by decide +kernel
theorem dc_CP_init_12 : decode prog_1_method_1_code 12 = .ok (.putfield 10, 3) := by decide +kernel
theorem dc_CP_init_15 : decode prog_1_method_1_code 15 = .ok (.aload_n 0, 1) := by decide +kernel
theorem dc_CP_init_16 : decode prog_1_method_1_code 16 = .ok (.aload_n 0, 1) := by decide +kernel
theorem dc_CP_init_17 : decode prog_1_method_1_code 17 = .ok (.getfield 10, 3) := by decide +kernel
theorem dc_CP_init_20 : decode prog_1_method_1_code 20 = .ok (.getfield 16, 3) := by decide +kernel
theorem dc_CP_init_23 : decode prog_1_method_1_code 23 = .ok (.putfield 20, 3) := by decide +kernel
theorem dc_CP_init_26 : decode prog_1_method_1_code 26 = .ok (.aload_n 0, 1) := by decide +kernel
theorem dc_CP_init_27 : decode prog_1_method_1_code 27 = .ok (.bipush 9, 2) := by decide +kernel
theorem dc_CP_init_29 : decode prog_1_method_1_code 29 = .ok (.anewarray 23, 3) := by decide +kernel
theorem dc_CP_init_32 : decode prog_1_method_1_code 32 = .ok (.putfield 25, 3) := by decide +kernel
theorem dc_CP_init_35 : decode prog_1_method_1_code 35 = .ok (.iconst 0, 1) := by decide +kernel
theorem dc_CP_init_36 : decode prog_1_method_1_code 36 = .ok (.istore_n 1, 1) := by decide +kernel
theorem dc_CP_init_37 : decode prog_1_method_1_code 37 = .ok (.iload_n 1, 1) := by decide +kernel
theorem dc_CP_init_38 : decode prog_1_method_1_code 38 = .ok (.aload_n 0, 1) := by decide +kernel
theorem dc_CP_init_39 : decode prog_1_method_1_code 39 = .ok (.getfield 25, 3) := by decide +kernel
theorem dc_CP_init_42 : decode prog_1_method_1_code 42 = .ok (.arraylength, 1) := by decide +kernel
theorem dc_CP_init_43 : decode prog_1_method_1_code 43 = .ok (.if_icmp .ge 22, 3) := by decide +kernel
theorem dc_CP_init_46 : decode prog_1_method_1_code 46 = .ok (.aload_n 0, 1) := by decide +kernel
theorem dc_CP_init_47 : decode prog_1_method_1_code 47 = .ok (.getfield 25, 3) := by decide +kernel
theorem dc_CP_init_50 : decode prog_1_method_1_code 50 = .ok (.iload_n 1, 1) := by decide +kernel
theorem dc_CP_init_51 : decode prog_1_method_1_code 51 = .ok (.new 23, 3) := by decide +kernel
theorem dc_CP_init_54 : decode prog_1_method_1_code 54 = .ok (.dup, 1) := by decide +kernel
theorem dc_CP_init_55 : decode prog_1_method_1_code 55 = .ok (.invokespecial 29, 3) := by decide +kernel
theorem dc_CP_init_58 : decode prog_1_method_1_code 58 = .ok (.aastore, 1) := by decide +kernel
theorem dc_CP_init_59 : decode prog_1_method_1_code 59 = .ok (.iinc 1 1, 3) := by decide +kernel
theorem dc_CP_init_62 : decode prog_1_method_1_code 62 = .ok (.goto (-25), 3) := by decide +kernel
theorem dc_CP_init_65 : decode prog_1_method_1_code 65 = .ok (.aload_n 0, 1) := by decide +kernel
theorem dc_CP_init_66 : decode prog_1_method_1_code 66 = .ok (.iconst 0, 1) := by decide +kernel
theorem dc_CP_init_67 : decode prog_1_method_1_code 67 = .ok (.putfield 30, 3) := by decide +kernel
theorem dc_CP_init_70 : decode prog_1_method_1_code 70 = .ok (.aload_n 0, 1) := by decide +kernel
theorem dc_CP_init_71 : decode prog_1_method_1_code 71 = .ok (.bipush 6, 2) := by decide +kernel
theorem dc_CP_init_73 : decode prog_1_method_1_code 73 = .ok (.newarray .int, 2) := by decide +kernel
theorem dc_CP_init_75 : decode prog_1_method_1_code 75 = .ok (.putfield 34, 3) := by decide +kernel
theorem dc_CP_init_78 : decode prog_1_method_1_code 78 = .ok (.aload_n 0, 1) := by decide +kernel
theorem dc_CP_init_79 : decode prog_1_method_1_code 79 = .ok (.iconst 0, 1) := by decide +kernel
theorem dc_CP_init_80 : decode prog_1_method_1_code 80 = .ok (.putfield 38, 3) := by decide +kernel
theorem dc_CP_init_83 : decode prog_1_method_1_code 83 = .ok (.return_, 1) := by decide +kernel
theorem dc_CP_feed_0 : decode prog_1_method_2_code 0 = .ok (.iload_n 2, 1) := by decide +kernel
theorem dc_CP_feed_1 : decode prog_1_method_2_code 1 = .ok (.iconst 1, 1) := by decide +kernel
theorem dc_CP_feed_2 : decode prog_1_method_2_code 2 = .ok (.if_icmp .lt 23, 3) := by decide +kernel
theorem dc_CP_feed_5 : decode prog_1_method_2_code 5 = .ok (.iload_n 2, 1) := by decide +kernel
theorem dc_CP_feed_6 : decode prog_1_method_2_code 6 = .ok (.iconst 4, 1) := by decide +kernel
theorem dc_CP_feed_7 : decode prog_1_method_2_code 7 = .ok (.if_icmp .gt 18, 3) := by decide +kernel
theorem dc_CP_feed_10 : decode prog_1_method_2_code 10 = .ok (.iload_n 2, 1) := by decide +kernel
theorem dc_CP_feed_11 : decode prog_1_method_2_code 11 = .ok (.sipush 160, 3) := by decide +kernel
theorem dc_CP_feed_14 : decode prog_1_method_2_code 14 = .ok (.aload_n 0, 1) := by decide +kernel
theorem dc_CP_feed_15 : decode prog_1_method_2_code 15 = .ok (.getfield 20, 3) := by decide +kernel
theorem dc_CP_feed_18 : decode prog_1_method_2_code 18 = .ok (.getfield 41, 3) := by decide +kernel
theorem dc_CP_feed_21 : decode prog_1_method_2_code 21 = .ok (.isub, 1) := by decide +kernel
theorem dc_CP_feed_22 : decode prog_1_method_2_code 22 = .ok (.if_icmp .le 5, 3) := by decide +kernel
theorem dc_CP_feed_25 : decode prog_1_method_2_code 25 = .ok (.iconst 0, 1) := by decide +kernel
theorem dc_CP_feed_26 : decode prog_1_method_2_code 26 = .ok (.ireturn, 1) := by decide +kernel
theorem dc_CP_feed_27 : decode prog_1_method_2_code 27 = .ok (.iload_n 2, 1) := by decide +kernel
theorem dc_CP_feed_28 : decode prog_1_method_2_code 28 = .ok (.iconst 1, 1) := by decide +kernel
theorem dc_CP_feed_29 : decode prog_1_method_2_code 29 = .ok (.isub, 1) := by decide +kernel
theorem dc_CP_feed_30 : decode prog_1_method_2_code 30 = .ok (.istore_n 3, 1) := by decide +kernel
theorem dc_CP_feed_31 : decode prog_1_method_2_code 31 = .ok (.iload_n 3, 1) := by decide +kernel
theorem dc_CP_feed_32 : decode prog_1_method_2_code 32 = .ok (.ifCond .lt 27, 3) := by decide +kernel
theorem dc_CP_feed_35 : decode prog_1_method_2_code 35 = .ok (.aload_n 0, 1) := by decide +kernel
theorem dc_CP_feed_36 : decode prog_1_method_2_code 36 = .ok (.getfield 20, 3) := by decide +kernel
theorem dc_CP_feed_39 : decode prog_1_method_2_code 39 = .ok (.iload_n 1, 1) := by decide +kernel
theorem dc_CP_feed_40 : decode prog_1_method_2_code 40 = .ok (.bipush 8, 2) := by decide +kernel
theorem dc_CP_feed_42 : decode prog_1_method_2_code 42 = .ok (.iload_n 3, 1) := by decide +kernel
theorem dc_CP_feed_43 : decode prog_1_method_2_code 43 = .ok (.imul, 1) := by decide +kernel
theorem dc_CP_feed_44 : decode prog_1_method_2_code 44 = .ok (.iushr, 1) := by decide +kernel
theorem dc_CP_feed_45 : decode prog_1_method_2_code 45 = .ok (.sipush 255, 3) := by decide +kernel
theorem dc_CP_feed_48 : decode prog_1_method_2_code 48 = .ok (.iand, 1) := by decide +kernel
theorem dc_CP_feed_49 : decode prog_1_method_2_code 49 = .ok (.invokevirtual 46, 3) := by decide +kernel
theorem dc_CP_feed_52 : decode prog_1_method_2_code 52 = .ok (.pop, 1) := by decide +kernel
theorem dc_CP_feed_53 : decode prog_1_method_2_code 53 = .ok (.iinc 3 (-1), 3) := by decide +kernel
theorem dc_CP_feed_56 : decode prog_1_method_2_code 56 = .ok (.goto (-25), 3) := by decide +kernel
theorem dc_CP_feed_59 : decode prog_1_method_2_code 59 = .ok (.iconst 1, 1) := by decide +kernel
theorem dc_CP_feed_60 : decode prog_1_method_2_code 60 = .ok (.ireturn, 1) := by decide +kernel
theorem dc_CP_set_0 : decode prog_1_method_3_code 0 = .ok (.aload_n 0, 1) := by decide +kernel
theorem dc_CP_set_1 : decode prog_1_method_3_code 1 = .ok (.getfield 20, 3) := by decide +kernel
theorem dc_CP_set_4 : decode prog_1_method_3_code 4 = .ok (.iload_n 1, 1) := by decide +kernel
theorem dc_CP_set_5 : decode prog_1_method_3_code 5 = .ok (.invokevirtual 50, 3) := by decide +kernel
theorem dc_CP_set_8 : decode prog_1_method_3_code 8 = .ok (.ifCond .eq 14, 3) := by decide +kernel
theorem dc_CP_set_11 : decode prog_1_method_3_code 11 = .ok (.iload_n 2, 1) := by decide +kernel
theorem dc_CP_set_12 : decode prog_1_method_3_code 12 = .ok (.ifCond .lt 10, 3) := by decide +kernel
theorem dc_CP_set_15 : decode prog_1_method_3_code 15 = .ok (.iload_n 2, 1) := by decide +kernel
theorem dc_CP_set_16 : decode prog_1_method_3_code 16 = .ok (.sipush 255, 3) := by decide +kernel
theorem dc_CP_set_19 : decode prog_1_method_3_code 19 = .ok (.if_icmp .le 5, 3) := by decide +kernel
theorem dc_CP_set_22 : decode prog_1_method_3_code 22 = .ok (.iconst 0, 1) := by decide +kernel
theorem dc_CP_set_23 : decode prog_1_method_3_code 23 = .ok (.ireturn, 1) := by decide +kernel
theorem dc_CP_set_24 : decode prog_1_method_3_code 24 = .ok (.aload_n 0, 1) := by decide +kernel
theorem dc_CP_set_25 : decode prog_1_method_3_code 25 = .ok (.getfield 20, 3) := by decide +kernel
theorem dc_CP_set_28 : decode prog_1_method_3_code 28 = .ok (.getfield 54, 3) := by decide +kernel
theorem dc_CP_set_31 : decode prog_1_method_3_code 31 = .ok (.iload_n 1, 1) := by decide +kernel
theorem dc_CP_set_32 : decode prog_1_method_3_code 32 = .ok (.iload_n 2, 1) := by decide +kernel
theorem dc_CP_set_33 : decode prog_1_method_3_code 33 = .ok (.iastore, 1) := by decide +kernel
theorem dc_CP_set_34 : decode prog_1_method_3_code 34 = .ok (.iconst 1, 1) := by decide +kernel
theorem dc_CP_set_35 : decode prog_1_method_3_code 35 = .ok (.ireturn, 1) := by decide +kernel
theorem dc_CP_trim_0 : decode prog_1_method_4_code 0 = .ok (.iload_n 1, 1) := by decide +kernel
theorem dc_CP_trim_1 : decode prog_1_method_4_code 1 = .ok (.ifCond .lt 14, 3) := by decide +kernel
theorem dc_CP_trim_4 : decode prog_1_method_4_code 4 = .ok (.iload_n 1, 1) := by decide +kernel
theorem dc_CP_trim_5 : decode prog_1_method_4_code 5 = .ok (.aload_n 0, 1) := by decide +kernel
theorem dc_CP_trim_6 : decode prog_1_method_4_code 6 = .ok (.getfield 20, 3) := by decide +kernel
theorem dc_CP_trim_9 : decode prog_1_method_4_code 9 = .ok (.getfield 41, 3) := by decide +kernel
theorem dc_CP_trim_12 : decode prog_1_method_4_code 12 = .ok (.if_icmp .le 5, 3) := by decide +kernel
theorem dc_CP_trim_15 : decode prog_1_method_4_code 15 = .ok (.iconst 0, 1) := by decide +kernel
theorem dc_CP_trim_16 : decode prog_1_method_4_code 16 = .ok (.ireturn, 1) := by decide +kernel
theorem dc_CP_trim_17 : decode prog_1_method_4_code 17 = .ok (.aload_n 0, 1) := by decide +kernel
theorem dc_CP_trim_18 : decode prog_1_method_4_code 18 = .ok (.getfield 20, 3) := by decide +kernel
theorem dc_CP_trim_21 : decode prog_1_method_4_code 21 = .ok (.iload_n 1, 1) := by decide +kernel
theorem dc_CP_trim_22 : decode prog_1_method_4_code 22 = .ok (.putfield 41, 3) := by decide +kernel
theorem dc_CP_trim_25 : decode prog_1_method_4_code 25 = .ok (.iconst 1, 1) := by decide +kernel
theorem dc_CP_trim_26 : decode prog_1_method_4_code 26 = .ok (.ireturn, 1) := by decide +kernel
theorem dc_CP_length_0 : decode prog_1_method_5_code 0 = .ok (.aload_n 0, 1) := by decide +kernel
theorem dc_CP_length_1 : decode prog_1_method_5_code 1 = .ok (.getfield 20, 3) := by decide +kernel
theorem dc_CP_length_4 : decode prog_1_method_5_code 4 = .ok (.getfield 41, 3) := by decide +kernel
theorem dc_CP_length_7 : decode prog_1_method_5_code 7 = .ok (.ireturn, 1) := by decide +kernel
theorem dc_CP_byteAt_0 : decode prog_1_method_6_code 0 = .ok (.aload_n 0, 1) := by decide +kernel
theorem dc_CP_byteAt_1 : decode prog_1_method_6_code 1 = .ok (.getfield 20, 3) := by decide +kernel
theorem dc_CP_byteAt_4 : decode prog_1_method_6_code 4 = .ok (.iload_n 1, 1) := by decide +kernel
theorem dc_CP_byteAt_5 : decode prog_1_method_6_code 5 = .ok (.invokevirtual 50, 3) := by decide +kernel
theorem dc_CP_byteAt_8 : decode prog_1_method_6_code 8 = .ok (.ifCond .eq 15, 3) := by decide +kernel
theorem dc_CP_byteAt_11 : decode prog_1_method_6_code 11 = .ok (.aload_n 0, 1) := by decide +kernel
theorem dc_CP_byteAt_12 : decode prog_1_method_6_code 12 = .ok (.getfield 20, 3) := by decide +kernel
theorem dc_CP_byteAt_15 : decode prog_1_method_6_code 15 = .ok (.getfield 54, 3) := by decide +kernel
theorem dc_CP_byteAt_18 : decode prog_1_method_6_code 18 = .ok (.iload_n 1, 1) := by decide +kernel
theorem dc_CP_byteAt_19 : decode prog_1_method_6_code 19 = .ok (.iaload, 1) := by decide +kernel
theorem dc_CP_byteAt_20 : decode prog_1_method_6_code 20 = .ok (.goto 4, 3) := by decide +kernel
theorem dc_CP_byteAt_23 : decode prog_1_method_6_code 23 = .ok (.iconst (-1), 1) := by decide +kernel
theorem dc_CP_byteAt_24 : decode prog_1_method_6_code 24 = .ok (.ireturn, 1) := by decide +kernel
theorem dc_CP_hash_0 : decode prog_1_method_7_code 0 = .ok (.iload_n 1, 1) := by decide +kernel
theorem dc_CP_hash_1 : decode prog_1_method_7_code 1 = .ok (.ifCond .lt 19, 3) := by decide +kernel
theorem dc_CP_hash_4 : decode prog_1_method_7_code 4 = .ok (.iload_n 1, 1) := by decide +kernel
theorem dc_CP_hash_5 : decode prog_1_method_7_code 5 = .ok (.iload_n 2, 1) := by decide +kernel
theorem dc_CP_hash_6 : decode prog_1_method_7_code 6 = .ok (.if_icmp .gt 14, 3) := by decide +kernel
theorem dc_CP_hash_9 : decode prog_1_method_7_code 9 = .ok (.iload_n 2, 1) := by decide +kernel
theorem dc_CP_hash_10 : decode prog_1_method_7_code 10 = .ok (.aload_n 0, 1) := by decide +kernel
theorem dc_CP_hash_11 : decode prog_1_method_7_code 11 = .ok (.getfield 20, 3) := by decide +kernel
theorem dc_CP_hash_14 : decode prog_1_method_7_code 14 = .ok (.getfield 41, 3) := by decide +kernel
theorem dc_CP_hash_17 : decode prog_1_method_7_code 17 = .ok (.if_icmp .le 5, 3) := by decide +kernel
theorem dc_CP_hash_20 : decode prog_1_method_7_code 20 = .ok (.iconst (-1), 1) := by decide +kernel
theorem dc_CP_hash_21 : decode prog_1_method_7_code 21 = .ok (.ireturn, 1) := by decide +kernel
theorem dc_CP_hash_22 : decode prog_1_method_7_code 22 = .ok (.aload_n 0, 1) := by decide +kernel
theorem dc_CP_hash_23 : decode prog_1_method_7_code 23 = .ok (.getfield 20, 3) := by decide +kernel
theorem dc_CP_hash_26 : decode prog_1_method_7_code 26 = .ok (.iload_n 1, 1) := by decide +kernel
theorem dc_CP_hash_27 : decode prog_1_method_7_code 27 = .ok (.iload_n 2, 1) := by decide +kernel
theorem dc_CP_hash_28 : decode prog_1_method_7_code 28 = .ok (.invokevirtual 57, 3) := by decide +kernel
theorem dc_CP_hash_31 : decode prog_1_method_7_code 31 = .ok (.ireturn, 1) := by decide +kernel
theorem dc_CP_accept_0 : decode prog_1_method_8_code 0 = .ok (.aload_n 0, 1) := by decide +kernel
theorem dc_CP_accept_1 : decode prog_1_method_8_code 1 = .ok (.getfield 25, 3) := by decide +kernel
theorem dc_CP_accept_4 : decode prog_1_method_8_code 4 = .ok (.aload_n 0, 1) := by decide +kernel
theorem dc_CP_accept_5 : decode prog_1_method_8_code 5 = .ok (.getfield 30, 3) := by decide +kernel
theorem dc_CP_accept_8 : decode prog_1_method_8_code 8 = .ok (.aaload, 1) := by decide +kernel
theorem dc_CP_accept_9 : decode prog_1_method_8_code 9 = .ok (.aload_n 0, 1) := by decide +kernel
theorem dc_CP_accept_10 : decode prog_1_method_8_code 10 = .ok (.getfield 10, 3) := by decide +kernel
theorem dc_CP_accept_13 : decode prog_1_method_8_code 13 = .ok (.invokevirtual 61, 3) := by decide +kernel
theorem dc_CP_accept_16 : decode prog_1_method_8_code 16 = .ok (.ifCond .ne 5, 3) := by decide +kernel
theorem dc_CP_accept_19 : decode prog_1_method_8_code 19 = .ok (.iconst (-1), 1) := by decide +kernel
theorem dc_CP_accept_20 : decode prog_1_method_8_code 20 = .ok (.ireturn, 1) := by decide +kernel
theorem dc_CP_accept_21 : decode prog_1_method_8_code 21 = .ok (.aload_n 0, 1) := by decide +kernel
theorem dc_CP_accept_22 : decode prog_1_method_8_code 22 = .ok (.getfield 30, 3) := by decide +kernel
theorem dc_CP_accept_25 : decode prog_1_method_8_code 25 = .ok (.bipush 8, 2) := by decide +kernel
theorem dc_CP_accept_27 : decode prog_1_method_8_code 27 = .ok (.if_icmp .ne 6, 3) := by decide +kernel
theorem dc_CP_accept_30 : decode prog_1_method_8_code 30 = .ok (.bipush (-2), 2) := by decide +kernel
theorem dc_CP_accept_32 : decode prog_1_method_8_code 32 = .ok (.ireturn, 1) := by decide +kernel
theorem dc_CP_accept_33 : decode prog_1_method_8_code 33 = .ok (.aload_n 0, 1) := by decide +kernel
theorem dc_CP_accept_34 : decode prog_1_method_8_code 34 = .ok (.dup, 1) := by decide +kernel
theorem dc_CP_accept_35 : decode prog_1_method_8_code 35 = .ok (.getfield 30, 3) := by decide +kernel
theorem dc_CP_accept_38 : decode prog_1_method_8_code 38 = .ok (.iconst 1, 1) := by decide +kernel
theorem dc_CP_accept_39 : decode prog_1_method_8_code 39 = .ok (.iadd, 1) := by decide +kernel
theorem dc_CP_accept_40 : decode prog_1_method_8_code 40 = .ok (.putfield 30, 3) := by decide +kernel
theorem dc_CP_accept_43 : decode prog_1_method_8_code 43 = .ok (.aload_n 0, 1) := by decide +kernel
theorem dc_CP_accept_44 : decode prog_1_method_8_code 44 = .ok (.getfield 30, 3) := by decide +kernel
theorem dc_CP_accept_47 : decode prog_1_method_8_code 47 = .ok (.iconst 1, 1) := by decide +kernel
theorem dc_CP_accept_48 : decode prog_1_method_8_code 48 = .ok (.isub, 1) := by decide +kernel
theorem dc_CP_accept_49 : decode prog_1_method_8_code 49 = .ok (.ireturn, 1) := by decide +kernel
theorem dc_CP_count_0 : decode prog_1_method_9_code 0 = .ok (.aload_n 0, 1) := by decide +kernel
theorem dc_CP_count_1 : decode prog_1_method_9_code 1 = .ok (.getfield 30, 3) := by decide +kernel
theorem dc_CP_count_4 : decode prog_1_method_9_code 4 = .ok (.ireturn, 1) := by decide +kernel
theorem dc_CP_field_0 : decode prog_1_method_10_code 0 = .ok (.aload_n 0, 1) := by decide +kernel
theorem dc_CP_field_1 : decode prog_1_method_10_code 1 = .ok (.iload_n 1, 1) := by decide +kernel
theorem dc_CP_field_2 : decode prog_1_method_10_code 2 = .ok (.invokevirtual 65, 3) := by decide +kernel
theorem dc_CP_field_5 : decode prog_1_method_10_code 5 = .ok (.ifCond .eq 16, 3) := by decide +kernel
theorem dc_CP_field_8 : decode prog_1_method_10_code 8 = .ok (.aload_n 0, 1) := by decide +kernel
theorem dc_CP_field_9 : decode prog_1_method_10_code 9 = .ok (.getfield 25, 3) := by decide +kernel
theorem dc_CP_field_12 : decode prog_1_method_10_code 12 = .ok (.iload_n 1, 1) := by decide +kernel
theorem dc_CP_field_13 : decode prog_1_method_10_code 13 = .ok (.aaload, 1) := by decide +kernel
theorem dc_CP_field_14 : decode prog_1_method_10_code 14 = .ok (.iload_n 2, 1) := by decide +kernel
theorem dc_CP_field_15 : decode prog_1_method_10_code 15 = .ok (.invokevirtual 68, 3) := by decide +kernel
theorem dc_CP_field_18 : decode prog_1_method_10_code 18 = .ok (.goto 4, 3) := by decide +kernel
theorem dc_CP_field_21 : decode prog_1_method_10_code 21 = .ok (.iconst (-1), 1) := by decide +kernel
theorem dc_CP_field_22 : decode prog_1_method_10_code 22 = .ok (.ireturn, 1) := by decide +kernel
theorem dc_CP_within_0 : decode prog_1_method_11_code 0 = .ok (.aload_n 0, 1) := by decide +kernel
theorem dc_CP_within_1 : decode prog_1_method_11_code 1 = .ok (.iload_n 1, 1) := by decide +kernel
theorem dc_CP_within_2 : decode prog_1_method_11_code 2 = .ok (.invokevirtual 65, 3) := by decide +kernel
theorem dc_CP_within_5 : decode prog_1_method_11_code 5 = .ok (.ifCond .eq 11, 3) := by decide +kernel
theorem dc_CP_within_8 : decode prog_1_method_11_code 8 = .ok (.aload_n 0, 1) := by decide +kernel
theorem dc_CP_within_9 : decode prog_1_method_11_code 9 = .ok (.iload_n 3, 1) := by decide +kernel
theorem dc_CP_within_10 : decode prog_1_method_11_code 10 = .ok (.invokevirtual 65, 3) := by decide +kernel
theorem dc_CP_within_13 : decode prog_1_method_11_code 13 = .ok (.ifCond .ne 5, 3) := by decide +kernel
theorem dc_CP_within_16 : decode prog_1_method_11_code 16 = .ok (.iconst 0, 1) := by decide +kernel
theorem dc_CP_within_17 : decode prog_1_method_11_code 17 = .ok (.ireturn, 1) := by decide +kernel
theorem dc_CP_within_18 : decode prog_1_method_11_code 18 = .ok (.aload_n 0, 1) := by decide +kernel
theorem dc_CP_within_19 : decode prog_1_method_11_code 19 = .ok (.iload_n 1, 1) := by decide +kernel
theorem dc_CP_within_20 : decode prog_1_method_11_code 20 = .ok (.iload_n 2, 1) := by decide +kernel
theorem dc_CP_within_21 : decode prog_1_method_11_code 21 = .ok (.invokevirtual 71, 3) := by decide +kernel
theorem dc_CP_within_24 : decode prog_1_method_11_code 24 = .ok (.aload_n 0, 1) := by decide +kernel
theorem dc_CP_within_25 : decode prog_1_method_11_code 25 = .ok (.iload_n 3, 1) := by decide +kernel
theorem dc_CP_within_26 : decode prog_1_method_11_code 26 = .ok (.iload 4, 2) := by decide +kernel
theorem dc_CP_within_28 : decode prog_1_method_11_code 28 = .ok (.invokevirtual 71, 3) := by decide +kernel
theorem dc_CP_within_31 : decode prog_1_method_11_code 31 = .ok (.invokevirtual 75, 3) := by decide +kernel
theorem dc_CP_within_34 : decode prog_1_method_11_code 34 = .ok (.ireturn, 1) := by decide +kernel
theorem dc_CP_recode_0 : decode prog_1_method_12_code 0 = .ok (.aload_n 0, 1) := by decide +kernel
theorem dc_CP_recode_1 : decode prog_1_method_12_code 1 = .ok (.iload_n 1, 1) := by decide +kernel
theorem dc_CP_recode_2 : decode prog_1_method_12_code 2 = .ok (.invokevirtual 65, 3) := by decide +kernel
theorem dc_CP_recode_5 : decode prog_1_method_12_code 5 = .ok (.ifCond .ne 5, 3) := by decide +kernel
theorem dc_CP_recode_8 : decode prog_1_method_12_code 8 = .ok (.iconst (-1), 1) := by decide +kernel
theorem dc_CP_recode_9 : decode prog_1_method_12_code 9 = .ok (.ireturn, 1) := by decide +kernel
theorem dc_CP_recode_10 : decode prog_1_method_12_code 10 = .ok (.aload_n 0, 1) := by decide +kernel
theorem dc_CP_recode_11 : decode prog_1_method_12_code 11 = .ok (.getfield 20, 3) := by decide +kernel
theorem dc_CP_recode_14 : decode prog_1_method_12_code 14 = .ok (.iconst 0, 1) := by decide +kernel
theorem dc_CP_recode_15 : decode prog_1_method_12_code 15 = .ok (.putfield 41, 3) := by decide +kernel
theorem dc_CP_recode_18 : decode prog_1_method_12_code 18 = .ok (.aload_n 0, 1) := by decide +kernel
theorem dc_CP_recode_19 : decode prog_1_method_12_code 19 = .ok (.getfield 25, 3) := by decide +kernel
theorem dc_CP_recode_22 : decode prog_1_method_12_code 22 = .ok (.iload_n 1, 1) := by decide +kernel
theorem dc_CP_recode_23 : decode prog_1_method_12_code 23 = .ok (.aaload, 1) := by decide +kernel
theorem dc_CP_recode_24 : decode prog_1_method_12_code 24 = .ok (.aload_n 0, 1) := by decide +kernel
theorem dc_CP_recode_25 : decode prog_1_method_12_code 25 = .ok (.getfield 20, 3) := by decide +kernel
theorem dc_CP_recode_28 : decode prog_1_method_12_code 28 = .ok (.invokevirtual 81, 3) := by decide +kernel
theorem dc_CP_recode_31 : decode prog_1_method_12_code 31 = .ok (.aload_n 0, 1) := by decide +kernel
theorem dc_CP_recode_32 : decode prog_1_method_12_code 32 = .ok (.getfield 20, 3) := by decide +kernel
theorem dc_CP_recode_35 : decode prog_1_method_12_code 35 = .ok (.getfield 41, 3) := by decide +kernel
theorem dc_CP_recode_38 : decode prog_1_method_12_code 38 = .ok (.ireturn, 1) := by decide +kernel
theorem dc_CP_link_0 : decode prog_1_method_13_code 0 = .ok (.aload_n 0, 1) := by decide +kernel
theorem dc_CP_link_1 : decode prog_1_method_13_code 1 = .ok (.iload_n 1, 1) := by decide +kernel
theorem dc_CP_link_2 : decode prog_1_method_13_code 2 = .ok (.invokevirtual 65, 3) := by decide +kernel
theorem dc_CP_link_5 : decode prog_1_method_13_code 5 = .ok (.ifCond .eq 12, 3) := by decide +kernel
theorem dc_CP_link_8 : decode prog_1_method_13_code 8 = .ok (.aload_n 0, 1) := by decide +kernel
theorem dc_CP_link_9 : decode prog_1_method_13_code 9 = .ok (.getfield 38, 3) := by decide +kernel
theorem dc_CP_link_12 : decode prog_1_method_13_code 12 = .ok (.bipush 6, 2) := by decide +kernel
theorem dc_CP_link_14 : decode prog_1_method_13_code 14 = .ok (.if_icmp .ne 5, 3) := by decide +kernel
theorem dc_CP_link_17 : decode prog_1_method_13_code 17 = .ok (.iconst 0, 1) := by decide +kernel
theorem dc_CP_link_18 : decode prog_1_method_13_code 18 = .ok (.ireturn, 1) := by decide +kernel
theorem dc_CP_link_19 : decode prog_1_method_13_code 19 = .ok (.aload_n 0, 1) := by decide +kernel
theorem dc_CP_link_20 : decode prog_1_method_13_code 20 = .ok (.getfield 34, 3) := by decide +kernel
theorem dc_CP_link_23 : decode prog_1_method_13_code 23 = .ok (.aload_n 0, 1) := by decide +kernel
theorem dc_CP_link_24 : decode prog_1_method_13_code 24 = .ok (.getfield 38, 3) := by decide +kernel
theorem dc_CP_link_27 : decode prog_1_method_13_code 27 = .ok (.iload_n 1, 1) := by decide +kernel
theorem dc_CP_link_28 : decode prog_1_method_13_code 28 = .ok (.iastore, 1) := by decide +kernel
theorem dc_CP_link_29 : decode prog_1_method_13_code 29 = .ok (.aload_n 0, 1) := by decide +kernel
theorem dc_CP_link_30 : decode prog_1_method_13_code 30 = .ok (.dup, 1) := by decide +kernel
theorem dc_CP_link_31 : decode prog_1_method_13_code 31 = .ok (.getfield 38, 3) := by decide +kernel
theorem dc_CP_link_34 : decode prog_1_method_13_code 34 = .ok (.iconst 1, 1) := by decide +kernel
theorem dc_CP_link_35 : decode prog_1_method_13_code 35 = .ok (.iadd, 1) := by decide +kernel
theorem dc_CP_link_36 : decode prog_1_method_13_code 36 = .ok (.putfield 38, 3) := by decide +kernel
theorem dc_CP_link_39 : decode prog_1_method_13_code 39 = .ok (.iconst 1, 1) := by decide +kernel
theorem dc_CP_link_40 : decode prog_1_method_13_code 40 = .ok (.ireturn, 1) := by decide +kernel
theorem dc_CP_unlink_0 : decode prog_1_method_14_code 0 = .ok (.aload_n 0, 1) := by decide +kernel
theorem dc_CP_unlink_1 : decode prog_1_method_14_code 1 = .ok (.getfield 38, 3) := by decide +kernel
theorem dc_CP_unlink_4 : decode prog_1_method_14_code 4 = .ok (.ifCond .ne 5, 3) := by decide +kernel
theorem dc_CP_unlink_7 : decode prog_1_method_14_code 7 = .ok (.iconst 0, 1) := by decide +kernel
theorem dc_CP_unlink_8 : decode prog_1_method_14_code 8 = .ok (.ireturn, 1) := by decide +kernel
theorem dc_CP_unlink_9 : decode prog_1_method_14_code 9 = .ok (.aload_n 0, 1) := by decide +kernel
theorem dc_CP_unlink_10 : decode prog_1_method_14_code 10 = .ok (.dup, 1) := by decide +kernel
theorem dc_CP_unlink_11 : decode prog_1_method_14_code 11 = .ok (.getfield 38, 3) := by decide +kernel
theorem dc_CP_unlink_14 : decode prog_1_method_14_code 14 = .ok (.iconst 1, 1) := by decide +kernel
theorem dc_CP_unlink_15 : decode prog_1_method_14_code 15 = .ok (.isub, 1) := by decide +kernel
theorem dc_CP_unlink_16 : decode prog_1_method_14_code 16 = .ok (.putfield 38, 3) := by decide +kernel
theorem dc_CP_unlink_19 : decode prog_1_method_14_code 19 = .ok (.iconst 1, 1) := by decide +kernel
theorem dc_CP_unlink_20 : decode prog_1_method_14_code 20 = .ok (.ireturn, 1) := by decide +kernel
theorem dc_CP_links_0 : decode prog_1_method_15_code 0 = .ok (.aload_n 0, 1) := by decide +kernel
theorem dc_CP_links_1 : decode prog_1_method_15_code 1 = .ok (.getfield 38, 3) := by decide +kernel
theorem dc_CP_links_4 : decode prog_1_method_15_code 4 = .ok (.ireturn, 1) := by decide +kernel
theorem dc_CP_check_0 : decode prog_1_method_16_code 0 = .ok (.aload_n 0, 1) := by decide +kernel
theorem dc_CP_check_1 : decode prog_1_method_16_code 1 = .ok (.iload_n 1, 1) := by decide +kernel
theorem dc_CP_check_2 : decode prog_1_method_16_code 2 = .ok (.invokevirtual 65, 3) := by decide +kernel
theorem dc_CP_check_5 : decode prog_1_method_16_code 5 = .ok (.ifCond .eq 21, 3) := by decide +kernel
theorem dc_CP_check_8 : decode prog_1_method_16_code 8 = .ok (.aload_n 0, 1) := by decide +kernel
theorem dc_CP_check_9 : decode prog_1_method_16_code 9 = .ok (.getfield 38, 3) := by decide +kernel
theorem dc_CP_check_12 : decode prog_1_method_16_code 12 = .ok (.ifCond .eq 14, 3) := by decide +kernel
theorem dc_CP_check_15 : decode prog_1_method_16_code 15 = .ok (.iload_n 3, 1) := by decide +kernel
theorem dc_CP_check_16 : decode prog_1_method_16_code 16 = .ok (.ifCond .lt 10, 3) := by decide +kernel
theorem dc_CP_check_19 : decode prog_1_method_16_code 19 = .ok (.iload_n 3, 1) := by decide +kernel
theorem dc_CP_check_20 : decode prog_1_method_16_code 20 = .ok (.sipush 255, 3) := by decide +kernel
theorem dc_CP_check_23 : decode prog_1_method_16_code 23 = .ok (.if_icmp .le 5, 3) := by decide +kernel
theorem dc_CP_check_26 : decode prog_1_method_16_code 26 = .ok (.iconst (-1), 1) := by decide +kernel
theorem dc_CP_check_27 : decode prog_1_method_16_code 27 = .ok (.ireturn, 1) := by decide +kernel
theorem dc_CP_check_28 : decode prog_1_method_16_code 28 = .ok (.aload_n 0, 1) := by decide +kernel
theorem dc_CP_check_29 : decode prog_1_method_16_code 29 = .ok (.getfield 25, 3) := by decide +kernel
theorem dc_CP_check_32 : decode prog_1_method_16_code 32 = .ok (.iload_n 1, 1) := by decide +kernel
theorem dc_CP_check_33 : decode prog_1_method_16_code 33 = .ok (.aaload, 1) := by decide +kernel
theorem dc_CP_check_34 : decode prog_1_method_16_code 34 = .ok (.astore 4, 2) := by decide +kernel
theorem dc_CP_check_36 : decode prog_1_method_16_code 36 = .ok (.aload_n 0, 1) := by decide +kernel
theorem dc_CP_check_37 : decode prog_1_method_16_code 37 = .ok (.getfield 38, 3) := by decide +kernel
theorem dc_CP_check_40 : decode prog_1_method_16_code 40 = .ok (.istore 5, 2) := by decide +kernel
theorem dc_CP_check_42 : decode prog_1_method_16_code 42 = .ok (.iconst 0, 1) := by decide +kernel
theorem dc_CP_check_43 : decode prog_1_method_16_code 43 = .ok (.istore 6, 2) := by decide +kernel
theorem dc_CP_check_45 : decode prog_1_method_16_code 45 = .ok (.iload 6, 2) := by decide +kernel
theorem dc_CP_check_47 : decode prog_1_method_16_code 47 = .ok (.aload_n 0, 1) := by decide +kernel
theorem dc_CP_check_48 : decode prog_1_method_16_code 48 = .ok (.getfield 38, 3) := by decide +kernel
theorem dc_CP_check_51 : decode prog_1_method_16_code 51 = .ok (.if_icmp .ge 107, 3) := by decide +kernel
theorem dc_CP_check_54 : decode prog_1_method_16_code 54 = .ok (.aload_n 0, 1) := by decide +kernel
theorem dc_CP_check_55 : decode prog_1_method_16_code 55 = .ok (.getfield 25, 3) := by decide +kernel
theorem dc_CP_check_58 : decode prog_1_method_16_code 58 = .ok (.aload_n 0, 1) := by decide +kernel
theorem dc_CP_check_59 : decode prog_1_method_16_code 59 = .ok (.getfield 34, 3) := by decide +kernel
theorem dc_CP_check_62 : decode prog_1_method_16_code 62 = .ok (.iload 6, 2) := by decide +kernel
theorem dc_CP_check_64 : decode prog_1_method_16_code 64 = .ok (.iaload, 1) := by decide +kernel
theorem dc_CP_check_65 : decode prog_1_method_16_code 65 = .ok (.aaload, 1) := by decide +kernel
theorem dc_CP_check_66 : decode prog_1_method_16_code 66 = .ok (.astore 7, 2) := by decide +kernel
theorem dc_CP_check_68 : decode prog_1_method_16_code 68 = .ok (.iload 6, 2) := by decide +kernel
theorem dc_CP_check_70 : decode prog_1_method_16_code 70 = .ok (.aload_n 0, 1) := by decide +kernel
theorem dc_CP_check_71 : decode prog_1_method_16_code 71 = .ok (.getfield 38, 3) := by decide +kernel
theorem dc_CP_check_74 : decode prog_1_method_16_code 74 = .ok (.iconst 1, 1) := by decide +kernel
theorem dc_CP_check_75 : decode prog_1_method_16_code 75 = .ok (.isub, 1) := by decide +kernel
theorem dc_CP_check_76 : decode prog_1_method_16_code 76 = .ok (.if_icmp .ne 7, 3) := by decide +kernel
theorem dc_CP_check_79 : decode prog_1_method_16_code 79 = .ok (.iconst 1, 1) := by decide +kernel
theorem dc_CP_check_80 : decode prog_1_method_16_code 80 = .ok (.goto 4, 3) := by decide +kernel
theorem dc_CP_check_83 : decode prog_1_method_16_code 83 = .ok (.iconst 0, 1) := by decide +kernel
theorem dc_CP_check_84 : decode prog_1_method_16_code 84 = .ok (.istore 8, 2) := by decide +kernel
theorem dc_CP_check_86 : decode prog_1_method_16_code 86 = .ok (.aload_n 0, 1) := by decide +kernel
theorem dc_CP_check_87 : decode prog_1_method_16_code 87 = .ok (.aload 4, 2) := by decide +kernel
theorem dc_CP_check_89 : decode prog_1_method_16_code 89 = .ok (.iload 6, 2) := by decide +kernel
theorem dc_CP_check_91 : decode prog_1_method_16_code 91 = .ok (.iload_n 2, 1) := by decide +kernel
theorem dc_CP_check_92 : decode prog_1_method_16_code 92 = .ok (.invokevirtual 85, 3) := by decide +kernel
theorem dc_CP_check_95 : decode prog_1_method_16_code 95 = .ok (.istore 9, 2) := by decide +kernel
theorem dc_CP_check_97 : decode prog_1_method_16_code 97 = .ok (.iload 9, 2) := by decide +kernel
theorem dc_CP_check_99 : decode prog_1_method_16_code 99 = .ok (.ifCond .ne 26, 3) := by decide +kernel
theorem dc_CP_check_102 : decode prog_1_method_16_code 102 = .ok (.iload 8, 2) := by decide +kernel
theorem dc_CP_check_104 : decode prog_1_method_16_code 104 = .ok (.ifCond .eq 12, 3) := by decide +kernel
theorem dc_CP_check_107 : decode prog_1_method_16_code 107 = .ok (.aload 7, 2) := by decide +kernel
theorem dc_CP_check_109 : decode prog_1_method_16_code 109 = .ok (.iload_n 3, 1) := by decide +kernel
theorem dc_CP_check_110 : decode prog_1_method_16_code 110 = .ok (.invokevirtual 89, 3) := by decide +kernel
theorem dc_CP_check_113 : decode prog_1_method_16_code 113 = .ok (.goto 10, 3) := by decide +kernel
theorem dc_CP_check_116 : decode prog_1_method_16_code 116 = .ok (.aload 7, 2) := by decide +kernel
theorem dc_CP_check_118 : decode prog_1_method_16_code 118 = .ok (.iload 5, 2) := by decide +kernel
theorem dc_CP_check_120 : decode prog_1_method_16_code 120 = .ok (.invokevirtual 92, 3) := by decide +kernel
theorem dc_CP_check_123 : decode prog_1_method_16_code 123 = .ok (.istore 9, 2) := by decide +kernel
theorem dc_CP_check_125 : decode prog_1_method_16_code 125 = .ok (.iload 9, 2) := by decide +kernel
theorem dc_CP_check_127 : decode prog_1_method_16_code 127 = .ok (.ifCond .eq 12, 3) := by decide +kernel
theorem dc_CP_check_130 : decode prog_1_method_16_code 130 = .ok (.bipush 16, 2) := by decide +kernel
theorem dc_CP_check_132 : decode prog_1_method_16_code 132 = .ok (.iload 6, 2) := by decide +kernel
theorem dc_CP_check_134 : decode prog_1_method_16_code 134 = .ok (.imul, 1) := by decide +kernel
theorem dc_CP_check_135 : decode prog_1_method_16_code 135 = .ok (.iload 9, 2) := by decide +kernel
theorem dc_CP_check_137 : decode prog_1_method_16_code 137 = .ok (.iadd, 1) := by decide +kernel
theorem dc_CP_check_138 : decode prog_1_method_16_code 138 = .ok (.ireturn, 1) := by decide +kernel
theorem dc_CP_check_139 : decode prog_1_method_16_code 139 = .ok (.aload 7, 2) := by decide +kernel
theorem dc_CP_check_141 : decode prog_1_method_16_code 141 = .ok (.iload 5, 2) := by decide +kernel
theorem dc_CP_check_143 : decode prog_1_method_16_code 143 = .ok (.invokevirtual 95, 3) := by decide +kernel
theorem dc_CP_check_146 : decode prog_1_method_16_code 146 = .ok (.istore 5, 2) := by decide +kernel
theorem dc_CP_check_148 : decode prog_1_method_16_code 148 = .ok (.aload 7, 2) := by decide +kernel
theorem dc_CP_check_150 : decode prog_1_method_16_code 150 = .ok (.astore 4, 2) := by decide +kernel
theorem dc_CP_check_152 : decode prog_1_method_16_code 152 = .ok (.iinc 6 1, 3) := by decide +kernel
theorem dc_CP_check_155 : decode prog_1_method_16_code 155 = .ok (.goto (-110), 3) := by decide +kernel
theorem dc_CP_check_158 : decode prog_1_method_16_code 158 = .ok (.iconst 0, 1) := by decide +kernel
theorem dc_CP_check_159 : decode prog_1_method_16_code 159 = .ok (.ireturn, 1) := by decide +kernel
theorem dc_CP_reset_0 : decode prog_1_method_17_code 0 = .ok (.aload_n 0, 1) := by decide +kernel
theorem dc_CP_reset_1 : decode prog_1_method_17_code 1 = .ok (.iconst 0, 1) := by decide +kernel
theorem dc_CP_reset_2 : decode prog_1_method_17_code 2 = .ok (.putfield 30, 3) := by decide +kernel
theorem dc_CP_reset_5 : decode prog_1_method_17_code 5 = .ok (.aload_n 0, 1) := by decide +kernel
theorem dc_CP_reset_6 : decode prog_1_method_17_code 6 = .ok (.iconst 0, 1) := by decide +kernel
theorem dc_CP_reset_7 : decode prog_1_method_17_code 7 = .ok (.putfield 38, 3) := by decide +kernel
theorem dc_CP_reset_10 : decode prog_1_method_17_code 10 = .ok (.return_, 1) := by decide +kernel
theorem dc_CP_isKept_0 : decode prog_1_method_18_code 0 = .ok (.iload_n 1, 1) := by decide +kernel
theorem dc_CP_isKept_1 : decode prog_1_method_18_code 1 = .ok (.ifCond .lt 15, 3) := by decide +kernel
theorem dc_CP_isKept_4 : decode prog_1_method_18_code 4 = .ok (.iload_n 1, 1) := by decide +kernel
theorem dc_CP_isKept_5 : decode prog_1_method_18_code 5 = .ok (.aload_n 0, 1) := by decide +kernel
theorem dc_CP_isKept_6 : decode prog_1_method_18_code 6 = .ok (.getfield 30, 3) := by decide +kernel
theorem dc_CP_isKept_9 : decode prog_1_method_18_code 9 = .ok (.if_icmp .ge 7, 3) := by decide +kernel
theorem dc_CP_isKept_12 : decode prog_1_method_18_code 12 = .ok (.iconst 1, 1) := by decide +kernel
theorem dc_CP_isKept_13 : decode prog_1_method_18_code 13 = .ok (.goto 4, 3) := by decide +kernel
theorem dc_CP_isKept_16 : decode prog_1_method_18_code 16 = .ok (.iconst 0, 1) := by decide +kernel
theorem dc_CP_isKept_17 : decode prog_1_method_18_code 17 = .ok (.ireturn, 1) := by decide +kernel
theorem dc_CP_nameOf_0 : decode prog_1_method_19_code 0 = .ok (.iload_n 2, 1) := by decide +kernel
theorem dc_CP_nameOf_1 : decode prog_1_method_19_code 1 = .ok (.ifCond .eq 15, 3) := by decide +kernel
theorem dc_CP_nameOf_4 : decode prog_1_method_19_code 4 = .ok (.aload_n 0, 1) := by decide +kernel
theorem dc_CP_nameOf_5 : decode prog_1_method_19_code 5 = .ok (.getfield 25, 3) := by decide +kernel
theorem dc_CP_nameOf_8 : decode prog_1_method_19_code 8 = .ok (.iload_n 1, 1) := by decide +kernel
theorem dc_CP_nameOf_9 : decode prog_1_method_19_code 9 = .ok (.aaload, 1) := by decide +kernel
theorem dc_CP_nameOf_10 : decode prog_1_method_19_code 10 = .ok (.getfield 98, 3) := by decide +kernel
theorem dc_CP_nameOf_13 : decode prog_1_method_19_code 13 = .ok (.goto 12, 3) := by decide +kernel
theorem dc_CP_nameOf_16 : decode prog_1_method_19_code 16 = .ok (.aload_n 0, 1) := by decide +kernel
theorem dc_CP_nameOf_17 : decode prog_1_method_19_code 17 = .ok (.getfield 25, 3) := by decide +kernel
theorem dc_CP_nameOf_20 : decode prog_1_method_19_code 20 = .ok (.iload_n 1, 1) := by decide +kernel
theorem dc_CP_nameOf_21 : decode prog_1_method_19_code 21 = .ok (.aaload, 1) := by decide +kernel
theorem dc_CP_nameOf_22 : decode prog_1_method_19_code 22 = .ok (.getfield 102, 3) := by decide +kernel
theorem dc_CP_nameOf_25 : decode prog_1_method_19_code 25 = .ok (.areturn, 1) := by decide +kernel
theorem dc_CP_brokenAnywhere_0 : decode prog_1_method_20_code 0 = .ok (.aload_n 0, 1) := by decide +kernel
theorem dc_CP_brokenAnywhere_1 : decode prog_1_method_20_code 1 = .ok (.getfield 25, 3) := by decide +kernel
theorem dc_CP_brokenAnywhere_4 : decode prog_1_method_20_code 4 = .ok (.aload_n 0, 1) := by decide +kernel
theorem dc_CP_brokenAnywhere_5 : decode prog_1_method_20_code 5 = .ok (.getfield 34, 3) := by decide +kernel
theorem dc_CP_brokenAnywhere_8 : decode prog_1_method_20_code 8 = .ok (.iload_n 2, 1) := by decide +kernel
theorem dc_CP_brokenAnywhere_9 : decode prog_1_method_20_code 9 = .ok (.iaload, 1) := by decide +kernel
theorem dc_CP_brokenAnywhere_10 : decode prog_1_method_20_code 10 = .ok (.aaload, 1) := by decide +kernel
theorem dc_CP_brokenAnywhere_11 : decode prog_1_method_20_code 11 = .ok (.astore 4, 2) := by decide +kernel
theorem dc_CP_brokenAnywhere_13 : decode prog_1_method_20_code 13 = .ok (.iload_n 2, 1) := by decide +kernel
theorem dc_CP_brokenAnywhere_14 : decode prog_1_method_20_code 14 = .ok (.aload_n 0, 1) := by decide +kernel
theorem dc_CP_brokenAnywhere_15 : decode prog_1_method_20_code 15 = .ok (.getfield 38, 3) := by decide +kernel
theorem dc_CP_brokenAnywhere_18 : decode prog_1_method_20_code 18 = .ok (.iconst 1, 1) := by decide +kernel
theorem dc_CP_brokenAnywhere_19 : decode prog_1_method_20_code 19 = .ok (.isub, 1) := by decide +kernel
theorem dc_CP_brokenAnywhere_20 : decode prog_1_method_20_code 20 = .ok (.if_icmp .ne 7, 3) := by decide +kernel
theorem dc_CP_brokenAnywhere_23 : decode prog_1_method_20_code 23 = .ok (.iconst 1, 1) := by decide +kernel
theorem dc_CP_brokenAnywhere_24 : decode prog_1_method_20_code 24 = .ok (.goto 4, 3) := by decide +kernel
theorem dc_CP_brokenAnywhere_27 : decode prog_1_method_20_code 27 = .ok (.iconst 0, 1) := by decide +kernel
theorem dc_CP_brokenAnywhere_28 : decode prog_1_method_20_code 28 = .ok (.istore 5, 2) := by decide +kernel
theorem dc_CP_brokenAnywhere_30 : decode prog_1_method_20_code 30 = .ok (.aload 4, 2) := by decide +kernel
theorem dc_CP_brokenAnywhere_32 : decode prog_1_method_20_code 32 = .ok (.aload_n 1, 1) := by decide +kernel
theorem dc_CP_brokenAnywhere_33 : decode prog_1_method_20_code 33 = .ok (.getfield 105, 3) := by decide +kernel
theorem dc_CP_brokenAnywhere_36 : decode prog_1_method_20_code 36 = .ok (.aload_n 1, 1) := by decide +kernel
theorem dc_CP_brokenAnywhere_37 : decode prog_1_method_20_code 37 = .ok (.getfield 108, 3) := by decide +kernel
theorem dc_CP_brokenAnywhere_40 : decode prog_1_method_20_code 40 = .ok (.invokevirtual 111, 3) := by decide +kernel
theorem dc_CP_brokenAnywhere_43 : decode prog_1_method_20_code 43 = .ok (.ifCond .ne 5, 3) := by decide +kernel
theorem dc_CP_brokenAnywhere_46 : decode prog_1_method_20_code 46 = .ok (.iconst 1, 1) := by decide +kernel
theorem dc_CP_brokenAnywhere_47 : decode prog_1_method_20_code 47 = .ok (.ireturn, 1) := by decide +kernel
theorem dc_CP_brokenAnywhere_48 : decode prog_1_method_20_code 48 = .ok (.iload_n 3, 1) := by decide +kernel
theorem dc_CP_brokenAnywhere_49 : decode prog_1_method_20_code 49 = .ok (.aload 4, 2) := by decide +kernel
theorem dc_CP_brokenAnywhere_51 : decode prog_1_method_20_code 51 = .ok (.getfield 115, 3) := by decide +kernel
theorem dc_CP_brokenAnywhere_54 : decode prog_1_method_20_code 54 = .ok (.if_icmp .lt 12, 3) := by decide +kernel
theorem dc_CP_brokenAnywhere_57 : decode prog_1_method_20_code 57 = .ok (.iload_n 3, 1) := by decide +kernel
theorem dc_CP_brokenAnywhere_58 : decode prog_1_method_20_code 58 = .ok (.aload 4, 2) := by decide +kernel
theorem dc_CP_brokenAnywhere_60 : decode prog_1_method_20_code 60 = .ok (.getfield 118, 3) := by decide +kernel
theorem dc_CP_brokenAnywhere_63 : decode prog_1_method_20_code 63 = .ok (.if_icmp .le 5, 3) := by decide +kernel
theorem dc_CP_brokenAnywhere_66 : decode prog_1_method_20_code 66 = .ok (.iconst 2, 1) := by decide +kernel
theorem dc_CP_brokenAnywhere_67 : decode prog_1_method_20_code 67 = .ok (.ireturn, 1) := by decide +kernel
theorem dc_CP_brokenAnywhere_68 : decode prog_1_method_20_code 68 = .ok (.aload 4, 2) := by decide +kernel
theorem dc_CP_brokenAnywhere_70 : decode prog_1_method_20_code 70 = .ok (.getfield 98, 3) := by decide +kernel
theorem dc_CP_brokenAnywhere_73 : decode prog_1_method_20_code 73 = .ok (.aload_n 1, 1) := by decide +kernel
theorem dc_CP_brokenAnywhere_74 : decode prog_1_method_20_code 74 = .ok (.getfield 102, 3) := by decide +kernel
theorem dc_CP_brokenAnywhere_77 : decode prog_1_method_20_code 77 = .ok (.invokevirtual 121, 3) := by decide +kernel
theorem dc_CP_brokenAnywhere_80 : decode prog_1_method_20_code 80 = .ok (.ifCond .ne 5, 3) := by decide +kernel
theorem dc_CP_brokenAnywhere_83 : decode prog_1_method_20_code 83 = .ok (.iconst 3, 1) := by decide +kernel
theorem dc_CP_brokenAnywhere_84 : decode prog_1_method_20_code 84 = .ok (.ireturn, 1) := by decide +kernel
theorem dc_CP_brokenAnywhere_85 : decode prog_1_method_20_code 85 = .ok (.iload 5, 2) := by decide +kernel
theorem dc_CP_brokenAnywhere_87 : decode prog_1_method_20_code 87 = .ok (.ifCond .ne 11, 3) := by decide +kernel
theorem dc_CP_brokenAnywhere_90 : decode prog_1_method_20_code 90 = .ok (.aload 4, 2) := by decide +kernel
theorem dc_CP_brokenAnywhere_92 : decode prog_1_method_20_code 92 = .ok (.invokevirtual 124, 3) := by decide +kernel
theorem dc_CP_brokenAnywhere_95 : decode prog_1_method_20_code 95 = .ok (.ifCond .ne 13, 3) := by decide +kernel
theorem dc_CP_brokenAnywhere_98 : decode prog_1_method_20_code 98 = .ok (.aload_n 0, 1) := by decide +kernel
theorem dc_CP_brokenAnywhere_99 : decode prog_1_method_20_code 99 = .ok (.iload_n 2, 1) := by decide +kernel
theorem dc_CP_brokenAnywhere_100 : decode prog_1_method_20_code 100 = .ok (.invokevirtual 128, 3) := by decide +kernel
theorem dc_CP_brokenAnywhere_103 : decode prog_1_method_20_code 103 = .ok (.ifCond .ne 5, 3) := by decide +kernel
theorem dc_CP_brokenAnywhere_106 : decode prog_1_method_20_code 106 = .ok (.iconst 4, 1) := by decide +kernel
theorem dc_CP_brokenAnywhere_107 : decode prog_1_method_20_code 107 = .ok (.ireturn, 1) := by decide +kernel
theorem dc_CP_brokenAnywhere_108 : decode prog_1_method_20_code 108 = .ok (.aload 4, 2) := by decide +kernel
theorem dc_CP_brokenAnywhere_110 : decode prog_1_method_20_code 110 = .ok (.invokevirtual 131, 3) := by decide +kernel
theorem dc_CP_brokenAnywhere_113 : decode prog_1_method_20_code 113 = .ok (.ifCond .eq 7, 3) := by decide +kernel
theorem dc_CP_brokenAnywhere_116 : decode prog_1_method_20_code 116 = .ok (.iconst 5, 1) := by decide +kernel
theorem dc_CP_brokenAnywhere_117 : decode prog_1_method_20_code 117 = .ok (.goto 4, 3) := by decide +kernel
theorem dc_CP_brokenAnywhere_120 : decode prog_1_method_20_code 120 = .ok (.iconst 0, 1) := by decide +kernel
theorem dc_CP_brokenAnywhere_121 : decode prog_1_method_20_code 121 = .ok (.ireturn, 1) := by decide +kernel
theorem dc_CP_isWithinBoundsBefore_0 : decode prog_1_method_21_code 0 = .ok (.aload_n 0, 1) := by decide +kernel
theorem dc_CP_isWithinBoundsBefore_1 : decode prog_1_method_21_code 1 = .ok (.getfield 25, 3) := by decide +kernel
theorem dc_CP_isWithinBoundsBefore_4 : decode prog_1_method_21_code 4 = .ok (.aload_n 0, 1) := by decide +kernel
theorem dc_CP_isWithinBoundsBefore_5 : decode prog_1_method_21_code 5 = .ok (.getfield 34, 3) := by decide +kernel
theorem dc_CP_isWithinBoundsBefore_8 : decode prog_1_method_21_code 8 = .ok (.iload_n 1, 1) := by decide +kernel
theorem dc_CP_isWithinBoundsBefore_9 : decode prog_1_method_21_code 9 = .ok (.iaload, 1) := by decide +kernel
theorem dc_CP_isWithinBoundsBefore_10 : decode prog_1_method_21_code 10 = .ok (.aaload, 1) := by decide +kernel
theorem dc_CP_isWithinBoundsBefore_11 : decode prog_1_method_21_code 11 = .ok (.getfield 102, 3) := by decide +kernel
theorem dc_CP_isWithinBoundsBefore_14 : decode prog_1_method_21_code 14 = .ok (.astore_n 2, 1) := by decide +kernel
theorem dc_CP_isWithinBoundsBefore_15 : decode prog_1_method_21_code 15 = .ok (.iconst 0, 1) := by decide +kernel
theorem dc_CP_isWithinBoundsBefore_16 : decode prog_1_method_21_code 16 = .ok (.istore_n 3, 1) := by decide +kernel
theorem dc_CP_isWithinBoundsBefore_17 : decode prog_1_method_21_code 17 = .ok (.iload_n 3, 1) := by decide +kernel
theorem dc_CP_isWithinBoundsBefore_18 : decode prog_1_method_21_code 18 = .ok (.iload_n 1, 1) := by decide +kernel
theorem dc_CP_isWithinBoundsBefore_19 : decode prog_1_method_21_code 19 = .ok (.if_icmp .ge 29, 3) := by decide +kernel
theorem dc_CP_isWithinBoundsBefore_22 : decode prog_1_method_21_code 22 = .ok (.aload_n 0, 1) := by decide +kernel
theorem dc_CP_isWithinBoundsBefore_23 : decode prog_1_method_21_code 23 = .ok (.getfield 25, 3) := by decide +kernel
theorem dc_CP_isWithinBoundsBefore_26 : decode prog_1_method_21_code 26 = .ok (.aload_n 0, 1) := by decide +kernel
theorem dc_CP_isWithinBoundsBefore_27 : decode prog_1_method_21_code 27 = .ok (.getfield 34, 3) := by decide +kernel
theorem dc_CP_isWithinBoundsBefore_30 : decode prog_1_method_21_code 30 = .ok (.iload_n 3, 1) := by decide +kernel
theorem dc_CP_isWithinBoundsBefore_31 : decode prog_1_method_21_code 31 = .ok (.iaload, 1) := by decide +kernel
theorem dc_CP_isWithinBoundsBefore_32 : decode prog_1_method_21_code 32 = .ok (.aaload, 1) := by decide +kernel
theorem dc_CP_isWithinBoundsBefore_33 : decode prog_1_method_21_code 33 = .ok (.aload_n 2, 1) := by decide +kernel
theorem dc_CP_isWithinBoundsBefore_34 : decode prog_1_method_21_code 34 = .ok (.invokevirtual 134, 3) := by decide +kernel
theorem dc_CP_isWithinBoundsBefore_37 : decode prog_1_method_21_code 37 = .ok (.ifCond .ne 5, 3) := by decide +kernel
theorem dc_CP_isWithinBoundsBefore_40 : decode prog_1_method_21_code 40 = .ok (.iconst 0, 1) := by decide +kernel
theorem dc_CP_isWithinBoundsBefore_41 : decode prog_1_method_21_code 41 = .ok (.ireturn, 1) := by decide +kernel
theorem dc_CP_isWithinBoundsBefore_42 : decode prog_1_method_21_code 42 = .ok (.iinc 3 1, 3) := by decide +kernel
theorem dc_CP_isWithinBoundsBefore_45 : decode prog_1_method_21_code 45 = .ok (.goto (-28), 3) := by decide +kernel
theorem dc_CP_isWithinBoundsBefore_48 : decode prog_1_method_21_code 48 = .ok (.iconst 1, 1) := by decide +kernel
theorem dc_CP_isWithinBoundsBefore_49 : decode prog_1_method_21_code 49 = .ok (.ireturn, 1) := by decide +kernel
