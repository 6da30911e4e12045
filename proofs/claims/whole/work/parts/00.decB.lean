/-! what each instruction is -/
theorem dc_EX_init_0 : decode prog_4_method_1_code 0 = .ok (.aload_n 0, 1) := by decide +kernel
theorem dc_EX_init_1 : decode prog_4_method_1_code 1 = .ok (.invokespecial 3, 3) := by decide +kernel
theorem dc_EX_init_4 : decode prog_4_method_1_code 4 = .ok (.aload_n 0, 1) := by decide +kernel
theorem dc_EX_init_5 : decode prog_4_method_1_code 5 = .ok (.iconst 0, 1) := by decide +kernel
theorem dc_EX_init_6 : decode prog_4_method_1_code 6 = .ok (.putfield 9, 3) := by decide +kernel
theorem dc_EX_init_9 : decode prog_4_method_1_code 9 = .ok (.aload_n 0, 1) := by decide +kernel
theorem dc_EX_init_10 : decode prog_4_method_1_code 10 = .ok (.iconst 0, 1) := by decide +kernel
theorem dc_EX_init_11 : decode prog_4_method_1_code 11 = .ok (.putfield 15, 3) := by decide +kernel
theorem dc_EX_init_14 : decode prog_4_method_1_code 14 = .ok (.aload_n 0, 1) := by decide +kernel
theorem dc_EX_init_15 : decode prog_4_method_1_code 15 = .ok (.bipush 20, 2) := by decide +kernel
theorem dc_EX_init_17 : decode prog_4_method_1_code 17 = .ok (.newarray .int, 2) := by decide +kernel
theorem dc_EX_init_19 : decode prog_4_method_1_code 19 = .ok (.putfield 19, 3) := by decide +kernel
theorem dc_EX_init_22 : decode prog_4_method_1_code 22 = .ok (.aload_n 0, 1) := by decide +kernel
theorem dc_EX_init_23 : decode prog_4_method_1_code 23 = .ok (.iconst 0, 1) := by decide +kernel
theorem dc_EX_init_24 : decode prog_4_method_1_code 24 = .ok (.putfield 23, 3) := by decide +kernel
theorem dc_EX_init_27 : decode prog_4_method_1_code 27 = .ok (.return_, 1) := by decide +kernel
theorem dc_EX_isKnown_0 : decode prog_4_method_2_code 0 = .ok (.aload_n 0, 1) := by decide +kernel
theorem dc_EX_isKnown_1 : decode prog_4_method_2_code 1 = .ok (.getfield 9, 3) := by decide +kernel
theorem dc_EX_isKnown_4 : decode prog_4_method_2_code 4 = .ok (.iconst 1, 1) := by decide +kernel
theorem dc_EX_isKnown_5 : decode prog_4_method_2_code 5 = .ok (.if_icmp .eq 19, 3) := by decide +kernel
theorem dc_EX_isKnown_8 : decode prog_4_method_2_code 8 = .ok (.aload_n 0, 1) := by decide +kernel
theorem dc_EX_isKnown_9 : decode prog_4_method_2_code 9 = .ok (.getfield 9, 3) := by decide +kernel
theorem dc_EX_isKnown_12 : decode prog_4_method_2_code 12 = .ok (.iconst 2, 1) := by decide +kernel
theorem dc_EX_isKnown_13 : decode prog_4_method_2_code 13 = .ok (.if_icmp .eq 11, 3) := by decide +kernel
theorem dc_EX_isKnown_16 : decode prog_4_method_2_code 16 = .ok (.aload_n 0, 1) := by decide +kernel
theorem dc_EX_isKnown_17 : decode prog_4_method_2_code 17 = .ok (.getfield 9, 3) := by decide +kernel
theorem dc_EX_isKnown_20 : decode prog_4_method_2_code 20 = .ok (.iconst 3, 1) := by decide +kernel
theorem dc_EX_isKnown_21 : decode prog_4_method_2_code 21 = .ok (.if_icmp .ne 7, 3) := by decide +kernel
theorem dc_EX_isKnown_24 : decode prog_4_method_2_code 24 = .ok (.iconst 1, 1) := by decide +kernel
theorem dc_EX_isKnown_25 : decode prog_4_method_2_code 25 = .ok (.goto 4, 3) := by decide +kernel
theorem dc_EX_isKnown_28 : decode prog_4_method_2_code 28 = .ok (.iconst 0, 1) := by decide +kernel
theorem dc_EX_isKnown_29 : decode prog_4_method_2_code 29 = .ok (.ireturn, 1) := by decide +kernel
theorem dc_EX_readOctets_0 : decode prog_4_method_3_code 0 = .ok (.aload_n 0, 1) := by decide +kernel
theorem dc_EX_readOctets_1 : decode prog_4_method_3_code 1 = .ok (.aload_n 1, 1) := by decide +kernel
theorem dc_EX_readOctets_2 : decode prog_4_method_3_code 2 = .ok (.invokevirtual 26, 3) := by decide +kernel
theorem dc_EX_readOctets_5 : decode prog_4_method_3_code 5 = .ok (.putfield 23, 3) := by decide +kernel
theorem dc_EX_readOctets_8 : decode prog_4_method_3_code 8 = .ok (.aload_n 0, 1) := by decide +kernel
theorem dc_EX_readOctets_9 : decode prog_4_method_3_code 9 = .ok (.getfield 23, 3) := by decide +kernel
theorem dc_EX_readOctets_12 : decode prog_4_method_3_code 12 = .ok (.aload_n 0, 1) := by decide +kernel
theorem dc_EX_readOctets_13 : decode prog_4_method_3_code 13 = .ok (.getfield 19, 3) := by decide +kernel
theorem dc_EX_readOctets_16 : decode prog_4_method_3_code 16 = .ok (.arraylength, 1) := by decide +kernel
theorem dc_EX_readOctets_17 : decode prog_4_method_3_code 17 = .ok (.if_icmp .le 12, 3) := by decide +kernel
theorem dc_EX_readOctets_20 : decode prog_4_method_3_code 20 = .ok (.aload_n 1, 1) := by decide +kernel
theorem dc_EX_readOctets_21 : decode prog_4_method_3_code 21 = .ok (.invokevirtual 32, 3) := by decide +kernel
theorem dc_EX_readOctets_24 : decode prog_4_method_3_code 24 = .ok (.aload_n 0, 1) := by decide +kernel
theorem dc_EX_readOctets_25 : decode prog_4_method_3_code 25 = .ok (.iconst 0, 1) := by decide +kernel
theorem dc_EX_readOctets_26 : decode prog_4_method_3_code 26 = .ok (.putfield 23, 3) := by decide +kernel
theorem dc_EX_readOctets_29 : decode prog_4_method_3_code 29 = .ok (.iconst 0, 1) := by decide +kernel
theorem dc_EX_readOctets_30 : decode prog_4_method_3_code 30 = .ok (.istore_n 2, 1) := by decide +kernel
theorem dc_EX_readOctets_31 : decode prog_4_method_3_code 31 = .ok (.iload_n 2, 1) := by decide +kernel
theorem dc_EX_readOctets_32 : decode prog_4_method_3_code 32 = .ok (.aload_n 0, 1) := by decide +kernel
theorem dc_EX_readOctets_33 : decode prog_4_method_3_code 33 = .ok (.getfield 23, 3) := by decide +kernel
theorem dc_EX_readOctets_36 : decode prog_4_method_3_code 36 = .ok (.if_icmp .ge 19, 3) := by decide +kernel
theorem dc_EX_readOctets_39 : decode prog_4_method_3_code 39 = .ok (.aload_n 0, 1) := by decide +kernel
theorem dc_EX_readOctets_40 : decode prog_4_method_3_code 40 = .ok (.getfield 19, 3) := by decide +kernel
theorem dc_EX_readOctets_43 : decode prog_4_method_3_code 43 = .ok (.iload_n 2, 1) := by decide +kernel
theorem dc_EX_readOctets_44 : decode prog_4_method_3_code 44 = .ok (.aload_n 1, 1) := by decide +kernel
theorem dc_EX_readOctets_45 : decode prog_4_method_3_code 45 = .ok (.invokevirtual 35, 3) := by decide +kernel
theorem dc_EX_readOctets_48 : decode prog_4_method_3_code 48 = .ok (.iastore, 1) := by decide +kernel
theorem dc_EX_readOctets_49 : decode prog_4_method_3_code 49 = .ok (.iinc 2 1, 3) := by decide +kernel
theorem dc_EX_readOctets_52 : decode prog_4_method_3_code 52 = .ok (.goto (-21), 3) := by decide +kernel
theorem dc_EX_readOctets_55 : decode prog_4_method_3_code 55 = .ok (.return_, 1) := by decide +kernel
theorem dc_EX_writeOctets_0 : decode prog_4_method_4_code 0 = .ok (.iconst 0, 1) := by decide +kernel
theorem dc_EX_writeOctets_1 : decode prog_4_method_4_code 1 = .ok (.istore_n 2, 1) := by decide +kernel
theorem dc_EX_writeOctets_2 : decode prog_4_method_4_code 2 = .ok (.iload_n 2, 1) := by decide +kernel
theorem dc_EX_writeOctets_3 : decode prog_4_method_4_code 3 = .ok (.aload_n 0, 1) := by decide +kernel
theorem dc_EX_writeOctets_4 : decode prog_4_method_4_code 4 = .ok (.getfield 23, 3) := by decide +kernel
theorem dc_EX_writeOctets_7 : decode prog_4_method_4_code 7 = .ok (.if_icmp .ge 20, 3) := by decide +kernel
theorem dc_EX_writeOctets_10 : decode prog_4_method_4_code 10 = .ok (.aload_n 1, 1) := by decide +kernel
theorem dc_EX_writeOctets_11 : decode prog_4_method_4_code 11 = .ok (.aload_n 0, 1) := by decide +kernel
theorem dc_EX_writeOctets_12 : decode prog_4_method_4_code 12 = .ok (.getfield 19, 3) := by decide +kernel
theorem dc_EX_writeOctets_15 : decode prog_4_method_4_code 15 = .ok (.iload_n 2, 1) := by decide +kernel
theorem dc_EX_writeOctets_16 : decode prog_4_method_4_code 16 = .ok (.iaload, 1) := by decide +kernel
theorem dc_EX_writeOctets_17 : decode prog_4_method_4_code 17 = .ok (.invokevirtual 38, 3) := by decide +kernel
theorem dc_EX_writeOctets_20 : decode prog_4_method_4_code 20 = .ok (.pop, 1) := by decide +kernel
theorem dc_EX_writeOctets_21 : decode prog_4_method_4_code 21 = .ok (.iinc 2 1, 3) := by decide +kernel
theorem dc_EX_writeOctets_24 : decode prog_4_method_4_code 24 = .ok (.goto (-22), 3) := by decide +kernel
theorem dc_EX_writeOctets_27 : decode prog_4_method_4_code 27 = .ok (.return_, 1) := by decide +kernel
theorem dc_NM_init_0 : decode prog_5_method_1_code 0 = .ok (.aload_n 0, 1) := by decide +kernel
theorem dc_NM_init_1 : decode prog_5_method_1_code 1 = .ok (.invokespecial 3, 3) := by decide +kernel
theorem dc_NM_init_4 : decode prog_5_method_1_code 4 = .ok (.aload_n 0, 1) := by decide +kernel
theorem dc_NM_init_5 : decode prog_5_method_1_code 5 = .ok (.iconst 4, 1) := by decide +kernel
theorem dc_NM_init_6 : decode prog_5_method_1_code 6 = .ok (.newarray .long, 2) := by decide +kernel
theorem dc_NM_init_8 : decode prog_5_method_1_code 8 = .ok (.putfield 9, 3) := by decide +kernel
theorem dc_NM_init_11 : decode prog_5_method_1_code 11 = .ok (.aload_n 0, 1) := by decide +kernel
theorem dc_NM_init_12 : decode prog_5_method_1_code 12 = .ok (.iconst 0, 1) := by decide +kernel
theorem dc_NM_init_13 : decode prog_5_method_1_code 13 = .ok (.putfield 15, 3) := by decide +kernel
theorem dc_NM_init_16 : decode prog_5_method_1_code 16 = .ok (.return_, 1) := by decide +kernel
theorem dc_NM_isWithin_0 : decode prog_5_method_2_code 0 = .ok (.aload_n 0, 1) := by decide +kernel
theorem dc_NM_isWithin_1 : decode prog_5_method_2_code 1 = .ok (.getfield 15, 3) := by decide +kernel
theorem dc_NM_isWithin_4 : decode prog_5_method_2_code 4 = .ok (.aload_n 1, 1) := by decide +kernel
theorem dc_NM_isWithin_5 : decode prog_5_method_2_code 5 = .ok (.getfield 15, 3) := by decide +kernel
theorem dc_NM_isWithin_8 : decode prog_5_method_2_code 8 = .ok (.if_icmp .ge 5, 3) := by decide +kernel
theorem dc_NM_isWithin_11 : decode prog_5_method_2_code 11 = .ok (.iconst 0, 1) := by decide +kernel
theorem dc_NM_isWithin_12 : decode prog_5_method_2_code 12 = .ok (.ireturn, 1) := by decide +kernel
theorem dc_NM_isWithin_13 : decode prog_5_method_2_code 13 = .ok (.iconst 0, 1) := by decide +kernel
theorem dc_NM_isWithin_14 : decode prog_5_method_2_code 14 = .ok (.istore_n 2, 1) := by decide +kernel
theorem dc_NM_isWithin_15 : decode prog_5_method_2_code 15 = .ok (.iload_n 2, 1) := by decide +kernel
theorem dc_NM_isWithin_16 : decode prog_5_method_2_code 16 = .ok (.aload_n 1, 1) := by decide +kernel
theorem dc_NM_isWithin_17 : decode prog_5_method_2_code 17 = .ok (.getfield 15, 3) := by decide +kernel
theorem dc_NM_isWithin_20 : decode prog_5_method_2_code 20 = .ok (.if_icmp .ge 27, 3) := by decide +kernel
theorem dc_NM_isWithin_23 : decode prog_5_method_2_code 23 = .ok (.aload_n 0, 1) := by decide +kernel
theorem dc_NM_isWithin_24 : decode prog_5_method_2_code 24 = .ok (.getfield 9, 3) := by decide +kernel
theorem dc_NM_isWithin_27 : decode prog_5_method_2_code 27 = .ok (.iload_n 2, 1) := by decide +kernel
theorem dc_NM_isWithin_28 : decode prog_5_method_2_code 28 = .ok (.laload, 1) := by decide +kernel
theorem dc_NM_isWithin_29 : decode prog_5_method_2_code 29 = .ok (.aload_n 1, 1) := by decide +kernel
theorem dc_NM_isWithin_30 : decode prog_5_method_2_code 30 = .ok (.getfield 9, 3) := by decide +kernel
theorem dc_NM_isWithin_33 : decode prog_5_method_2_code 33 = .ok (.iload_n 2, 1) := by decide +kernel
theorem dc_NM_isWithin_34 : decode prog_5_method_2_code 34 = .ok (.laload, 1) := by decide +kernel
theorem dc_NM_isWithin_35 : decode prog_5_method_2_code 35 = .ok (.lcmp, 1) := by decide +kernel
theorem dc_NM_isWithin_36 : decode prog_5_method_2_code 36 = .ok (.ifCond .eq 5, 3) := by decide +kernel
theorem dc_NM_isWithin_39 : decode prog_5_method_2_code 39 = .ok (.iconst 0, 1) := by decide +kernel
theorem dc_NM_isWithin_40 : decode prog_5_method_2_code 40 = .ok (.ireturn, 1) := by decide +kernel
theorem dc_NM_isWithin_41 : decode prog_5_method_2_code 41 = .ok (.iinc 2 1, 3) := by decide +kernel
theorem dc_NM_isWithin_44 : decode prog_5_method_2_code 44 = .ok (.goto (-29), 3) := by decide +kernel
theorem dc_NM_isWithin_47 : decode prog_5_method_2_code 47 = .ok (.iconst 1, 1) := by decide +kernel
theorem dc_NM_isWithin_48 : decode prog_5_method_2_code 48 = .ok (.ireturn, 1) := by decide +kernel
theorem dc_NM_isSameAs_0 : decode prog_5_method_3_code 0 = .ok (.aload_n 0, 1) := by decide +kernel
theorem dc_NM_isSameAs_1 : decode prog_5_method_3_code 1 = .ok (.getfield 15, 3) := by decide +kernel
theorem dc_NM_isSameAs_4 : decode prog_5_method_3_code 4 = .ok (.aload_n 1, 1) := by decide +kernel
theorem dc_NM_isSameAs_5 : decode prog_5_method_3_code 5 = .ok (.getfield 15, 3) := by decide +kernel
theorem dc_NM_isSameAs_8 : decode prog_5_method_3_code 8 = .ok (.if_icmp .ne 15, 3) := by decide +kernel
theorem dc_NM_isSameAs_11 : decode prog_5_method_3_code 11 = .ok (.aload_n 0, 1) := by decide +kernel
theorem dc_NM_isSameAs_12 : decode prog_5_method_3_code 12 = .ok (.aload_n 1, 1) := by decide +kernel
theorem dc_NM_isSameAs_13 : decode prog_5_method_3_code 13 = .ok (.invokevirtual 19, 3) := by decide +kernel
theorem dc_NM_isSameAs_16 : decode prog_5_method_3_code 16 = .ok (.ifCond .eq 7, 3) := by decide +kernel
theorem dc_NM_isSameAs_19 : decode prog_5_method_3_code 19 = .ok (.iconst 1, 1) := by decide +kernel
theorem dc_NM_isSameAs_20 : decode prog_5_method_3_code 20 = .ok (.goto 4, 3) := by decide +kernel
theorem dc_NM_isSameAs_23 : decode prog_5_method_3_code 23 = .ok (.iconst 0, 1) := by decide +kernel
theorem dc_NM_isSameAs_24 : decode prog_5_method_3_code 24 = .ok (.ireturn, 1) := by decide +kernel
theorem dc_NM_readFrom_0 : decode prog_5_method_4_code 0 = .ok (.aload_n 0, 1) := by decide +kernel
theorem dc_NM_readFrom_1 : decode prog_5_method_4_code 1 = .ok (.iconst 0, 1) := by decide +kernel
theorem dc_NM_readFrom_2 : decode prog_5_method_4_code 2 = .ok (.putfield 15, 3) := by decide +kernel
theorem dc_NM_readFrom_5 : decode prog_5_method_4_code 5 = .ok (.aload_n 1, 1) := by decide +kernel
theorem dc_NM_readFrom_6 : decode prog_5_method_4_code 6 = .ok (.bipush 48, 2) := by decide +kernel
theorem dc_NM_readFrom_8 : decode prog_5_method_4_code 8 = .ok (.invokevirtual 23, 3) := by decide +kernel
theorem dc_NM_readFrom_11 : decode prog_5_method_4_code 11 = .ok (.aload_n 0, 1) := by decide +kernel
theorem dc_NM_readFrom_12 : decode prog_5_method_4_code 12 = .ok (.getfield 15, 3) := by decide +kernel
theorem dc_NM_readFrom_15 : decode prog_5_method_4_code 15 = .ok (.aload_n 0, 1) := by decide +kernel
theorem dc_NM_readFrom_16 : decode prog_5_method_4_code 16 = .ok (.getfield 9, 3) := by decide +kernel
theorem dc_NM_readFrom_19 : decode prog_5_method_4_code 19 = .ok (.arraylength, 1) := by decide +kernel
theorem dc_NM_readFrom_20 : decode prog_5_method_4_code 20 = .ok (.if_icmp .ge 111, 3) := by decide +kernel
theorem dc_NM_readFrom_23 : decode prog_5_method_4_code 23 = .ok (.aload_n 1, 1) := by decide +kernel
theorem dc_NM_readFrom_24 : decode prog_5_method_4_code 24 = .ok (.invokevirtual 29, 3) := by decide +kernel
theorem dc_NM_readFrom_27 : decode prog_5_method_4_code 27 = .ok (.ifCond .le 104, 3) := by decide +kernel
theorem dc_NM_readFrom_30 : decode prog_5_method_4_code 30 = .ok (.aload_n 1, 1) := by decide +kernel
theorem dc_NM_readFrom_31 : decode prog_5_method_4_code 31 = .ok (.bipush 19, 2) := by decide +kernel
theorem dc_NM_readFrom_33 : decode prog_5_method_4_code 33 = .ok (.invokevirtual 23, 3) := by decide +kernel
theorem dc_NM_readFrom_36 : decode prog_5_method_4_code 36 = .ok (.lconst 0, 1) := by decide +kernel
theorem dc_NM_readFrom_37 : decode prog_5_method_4_code 37 = .ok (.lstore_n 2, 1) := by decide +kernel
theorem dc_NM_readFrom_38 : decode prog_5_method_4_code 38 = .ok (.iconst 0, 1) := by decide +kernel
theorem dc_NM_readFrom_39 : decode prog_5_method_4_code 39 = .ok (.istore 4, 2) := by decide +kernel
theorem dc_NM_readFrom_41 : decode prog_5_method_4_code 41 = .ok (.iload 4, 2) := by decide +kernel
theorem dc_NM_readFrom_43 : decode prog_5_method_4_code 43 = .ok (.bipush 8, 2) := by decide +kernel
theorem dc_NM_readFrom_45 : decode prog_5_method_4_code 45 = .ok (.if_icmp .ge 49, 3) := by decide +kernel
theorem dc_NM_readFrom_48 : decode prog_5_method_4_code 48 = .ok (.aload_n 1, 1) := by decide +kernel
theorem dc_NM_readFrom_49 : decode prog_5_method_4_code 49 = .ok (.invokevirtual 29, 3) := by decide +kernel
theorem dc_NM_readFrom_52 : decode prog_5_method_4_code 52 = .ok (.ifCond .le 42, 3) := by decide +kernel
theorem dc_NM_readFrom_55 : decode prog_5_method_4_code 55 = .ok (.aload_n 1, 1) := by decide +kernel
theorem dc_NM_readFrom_56 : decode prog_5_method_4_code 56 = .ok (.invokevirtual 33, 3) := by decide +kernel
theorem dc_NM_readFrom_59 : decode prog_5_method_4_code 59 = .ok (.istore 5, 2) := by decide +kernel
theorem dc_NM_readFrom_61 : decode prog_5_method_4_code 61 = .ok (.iload 5, 2) := by decide +kernel
theorem dc_NM_readFrom_63 : decode prog_5_method_4_code 63 = .ok (.bipush 97, 2) := by decide +kernel
theorem dc_NM_readFrom_65 : decode prog_5_method_4_code 65 = .ok (.if_icmp .lt 10, 3) := by decide +kernel
theorem dc_NM_readFrom_68 : decode prog_5_method_4_code 68 = .ok (.iload 5, 2) := by decide +kernel
theorem dc_NM_readFrom_70 : decode prog_5_method_4_code 70 = .ok (.bipush 122, 2) := by decide +kernel
theorem dc_NM_readFrom_72 : decode prog_5_method_4_code 72 = .ok (.if_icmp .le 7, 3) := by decide +kernel
theorem dc_NM_readFrom_75 : decode prog_5_method_4_code 75 = .ok (.aload_n 1, 1) := by decide +kernel
theorem dc_NM_readFrom_76 : decode prog_5_method_4_code 76 = .ok (.invokevirtual 36, 3) := by decide +kernel
theorem dc_NM_readFrom_79 : decode prog_5_method_4_code 79 = .ok (.lload_n 2, 1) := by decide +kernel
theorem dc_NM_readFrom_80 : decode prog_5_method_4_code 80 = .ok (.bipush 8, 2) := by decide +kernel
theorem dc_NM_readFrom_82 : decode prog_5_method_4_code 82 = .ok (.lshl, 1) := by decide +kernel
theorem dc_NM_readFrom_83 : decode prog_5_method_4_code 83 = .ok (.iload 5, 2) := by decide +kernel
theorem dc_NM_readFrom_85 : decode prog_5_method_4_code 85 = .ok (.i2l, 1) := by decide +kernel
theorem dc_NM_readFrom_86 : decode prog_5_method_4_code 86 = .ok (.lor, 1) := by decide +kernel
theorem dc_NM_readFrom_87 : decode prog_5_method_4_code 87 = .ok (.lstore_n 2, 1) := by decide +kernel
theorem dc_NM_readFrom_88 : decode prog_5_method_4_code 88 = .ok (.iinc 4 1, 3) := by decide +kernel
theorem dc_NM_readFrom_91 : decode prog_5_method_4_code 91 = .ok (.goto (-50), 3) := by decide +kernel
theorem dc_NM_readFrom_94 : decode prog_5_method_4_code 94 = .ok (.lload_n 2, 1) := by decide +kernel
theorem dc_NM_readFrom_95 : decode prog_5_method_4_code 95 = .ok (.lconst 0, 1) := by decide +kernel
theorem dc_NM_readFrom_96 : decode prog_5_method_4_code 96 = .ok (.lcmp, 1) := by decide +kernel
theorem dc_NM_readFrom_97 : decode prog_5_method_4_code 97 = .ok (.ifCond .ne 7, 3) := by decide +kernel
theorem dc_NM_readFrom_100 : decode prog_5_method_4_code 100 = .ok (.aload_n 1, 1) := by decide +kernel
theorem dc_NM_readFrom_101 : decode prog_5_method_4_code 101 = .ok (.invokevirtual 36, 3) := by decide +kernel
theorem dc_NM_readFrom_104 : decode prog_5_method_4_code 104 = .ok (.aload_n 1, 1) := by decide +kernel
theorem dc_NM_readFrom_105 : decode prog_5_method_4_code 105 = .ok (.invokevirtual 39, 3) := by decide +kernel
theorem dc_NM_readFrom_108 : decode prog_5_method_4_code 108 = .ok (.aload_n 0, 1) := by decide +kernel
theorem dc_NM_readFrom_109 : decode prog_5_method_4_code 109 = .ok (.getfield 9, 3) := by decide +kernel
theorem dc_NM_readFrom_112 : decode prog_5_method_4_code 112 = .ok (.aload_n 0, 1) := by decide +kernel
theorem dc_NM_readFrom_113 : decode prog_5_method_4_code 113 = .ok (.getfield 15, 3) := by decide +kernel
theorem dc_NM_readFrom_116 : decode prog_5_method_4_code 116 = .ok (.lload_n 2, 1) := by decide +kernel
theorem dc_NM_readFrom_117 : decode prog_5_method_4_code 117 = .ok (.lastore, 1) := by decide +kernel
theorem dc_NM_readFrom_118 : decode prog_5_method_4_code 118 = .ok (.aload_n 0, 1) := by decide +kernel
theorem dc_NM_readFrom_119 : decode prog_5_method_4_code 119 = .ok (.dup, 1) := by decide +kernel
theorem dc_NM_readFrom_120 : decode prog_5_method_4_code 120 = .ok (.getfield 15, 3) := by decide +kernel
theorem dc_NM_readFrom_123 : decode prog_5_method_4_code 123 = .ok (.iconst 1, 1) := by decide +kernel
theorem dc_NM_readFrom_124 : decode prog_5_method_4_code 124 = .ok (.iadd, 1) := by decide +kernel
theorem dc_NM_readFrom_125 : decode prog_5_method_4_code 125 = .ok (.putfield 15, 3) := by decide +kernel
theorem dc_NM_readFrom_128 : decode prog_5_method_4_code 128 = .ok (.goto (-117), 3) := by decide +kernel
theorem dc_NM_readFrom_131 : decode prog_5_method_4_code 131 = .ok (.aload_n 1, 1) := by decide +kernel
theorem dc_NM_readFrom_132 : decode prog_5_method_4_code 132 = .ok (.invokevirtual 39, 3) := by decide +kernel
theorem dc_NM_readFrom_135 : decode prog_5_method_4_code 135 = .ok (.return_, 1) := by decide +kernel
theorem dc_NM_writeTo_0 : decode prog_5_method_5_code 0 = .ok (.aload_n 1, 1) := by decide +kernel
theorem dc_NM_writeTo_1 : decode prog_5_method_5_code 1 = .ok (.bipush 48, 2) := by decide +kernel
theorem dc_NM_writeTo_3 : decode prog_5_method_5_code 3 = .ok (.invokevirtual 42, 3) := by decide +kernel
theorem dc_NM_writeTo_6 : decode prog_5_method_5_code 6 = .ok (.istore_n 2, 1) := by decide +kernel
theorem dc_NM_writeTo_7 : decode prog_5_method_5_code 7 = .ok (.iconst 0, 1) := by decide +kernel
theorem dc_NM_writeTo_8 : decode prog_5_method_5_code 8 = .ok (.istore_n 3, 1) := by decide +kernel
theorem dc_NM_writeTo_9 : decode prog_5_method_5_code 9 = .ok (.iload_n 3, 1) := by decide +kernel
theorem dc_NM_writeTo_10 : decode prog_5_method_5_code 10 = .ok (.aload_n 0, 1) := by decide +kernel
theorem dc_NM_writeTo_11 : decode prog_5_method_5_code 11 = .ok (.getfield 15, 3) := by decide +kernel
theorem dc_NM_writeTo_14 : decode prog_5_method_5_code 14 = .ok (.if_icmp .ge 66, 3) := by decide +kernel
theorem dc_NM_writeTo_17 : decode prog_5_method_5_code 17 = .ok (.aload_n 1, 1) := by decide +kernel
theorem dc_NM_writeTo_18 : decode prog_5_method_5_code 18 = .ok (.bipush 19, 2) := by decide +kernel
theorem dc_NM_writeTo_20 : decode prog_5_method_5_code 20 = .ok (.invokevirtual 42, 3) := by decide +kernel
theorem dc_NM_writeTo_23 : decode prog_5_method_5_code 23 = .ok (.istore 4, 2) := by decide +kernel
theorem dc_NM_writeTo_25 : decode prog_5_method_5_code 25 = .ok (.bipush 56, 2) := by decide +kernel
theorem dc_NM_writeTo_27 : decode prog_5_method_5_code 27 = .ok (.istore 5, 2) := by decide +kernel
theorem dc_NM_writeTo_29 : decode prog_5_method_5_code 29 = .ok (.iload 5, 2) := by decide +kernel
theorem dc_NM_writeTo_31 : decode prog_5_method_5_code 31 = .ok (.ifCond .lt 37, 3) := by decide +kernel
theorem dc_NM_writeTo_34 : decode prog_5_method_5_code 34 = .ok (.aload_n 0, 1) := by decide +kernel
theorem dc_NM_writeTo_35 : decode prog_5_method_5_code 35 = .ok (.getfield 9, 3) := by decide +kernel
theorem dc_NM_writeTo_38 : decode prog_5_method_5_code 38 = .ok (.iload_n 3, 1) := by decide +kernel
theorem dc_NM_writeTo_39 : decode prog_5_method_5_code 39 = .ok (.laload, 1) := by decide +kernel
theorem dc_NM_writeTo_40 : decode prog_5_method_5_code 40 = .ok (.iload 5, 2) := by decide +kernel
theorem dc_NM_writeTo_42 : decode prog_5_method_5_code 42 = .ok (.lushr, 1) := by decide +kernel
theorem dc_NM_writeTo_43 : decode prog_5_method_5_code 43 = .ok (.l2i, 1) := by decide +kernel
theorem dc_NM_writeTo_44 : decode prog_5_method_5_code 44 = .ok (.sipush 255, 3) := by decide +kernel
theorem dc_NM_writeTo_47 : decode prog_5_method_5_code 47 = .ok (.iand, 1) := by decide +kernel
theorem dc_NM_writeTo_48 : decode prog_5_method_5_code 48 = .ok (.istore 6, 2) := by decide +kernel
theorem dc_NM_writeTo_50 : decode prog_5_method_5_code 50 = .ok (.iload 6, 2) := by decide +kernel
theorem dc_NM_writeTo_52 : decode prog_5_method_5_code 52 = .ok (.ifCond .eq 10, 3) := by decide +kernel
theorem dc_NM_writeTo_55 : decode prog_5_method_5_code 55 = .ok (.aload_n 1, 1) := by decide +kernel
theorem dc_NM_writeTo_56 : decode prog_5_method_5_code 56 = .ok (.iload 6, 2) := by decide +kernel
theorem dc_NM_writeTo_58 : decode prog_5_method_5_code 58 = .ok (.invokevirtual 42, 3) := by decide +kernel
theorem dc_NM_writeTo_61 : decode prog_5_method_5_code 61 = .ok (.pop, 1) := by decide +kernel
theorem dc_NM_writeTo_62 : decode prog_5_method_5_code 62 = .ok (.iinc 5 (-8), 3) := by decide +kernel
theorem dc_NM_writeTo_65 : decode prog_5_method_5_code 65 = .ok (.goto (-36), 3) := by decide +kernel
theorem dc_NM_writeTo_68 : decode prog_5_method_5_code 68 = .ok (.aload_n 1, 1) := by decide +kernel
theorem dc_NM_writeTo_69 : decode prog_5_method_5_code 69 = .ok (.iload 4, 2) := by decide +kernel
theorem dc_NM_writeTo_71 : decode prog_5_method_5_code 71 = .ok (.invokevirtual 48, 3) := by decide +kernel
theorem dc_NM_writeTo_74 : decode prog_5_method_5_code 74 = .ok (.iinc 3 1, 3) := by decide +kernel
theorem dc_NM_writeTo_77 : decode prog_5_method_5_code 77 = .ok (.goto (-68), 3) := by decide +kernel
theorem dc_NM_writeTo_80 : decode prog_5_method_5_code 80 = .ok (.aload_n 1, 1) := by decide +kernel
theorem dc_NM_writeTo_81 : decode prog_5_method_5_code 81 = .ok (.iload_n 2, 1) := by decide +kernel
theorem dc_NM_writeTo_82 : decode prog_5_method_5_code 82 = .ok (.invokevirtual 48, 3) := by decide +kernel
theorem dc_NM_writeTo_85 : decode prog_5_method_5_code 85 = .ok (.return_, 1) := by decide +kernel
theorem dc_NL_init_0 : decode prog_6_method_1_code 0 = .ok (.aload_n 0, 1) := by decide +kernel
theorem dc_NL_init_1 : decode prog_6_method_1_code 1 = .ok (.invokespecial 3, 3) := by decide +kernel
theorem dc_NL_init_4 : decode prog_6_method_1_code 4 = .ok (.aload_n 0, 1) := by decide +kernel
theorem dc_NL_init_5 : decode prog_6_method_1_code 5 = .ok (.iconst 3, 1) := by decide +kernel
theorem dc_NL_init_6 : decode prog_6_method_1_code 6 = .ok (.anewarray 9, 3) := by decide +kernel
theorem dc_NL_init_9 : decode prog_6_method_1_code 9 = .ok (.putfield 11, 3) := by decide +kernel
theorem dc_NL_init_12 : decode prog_6_method_1_code 12 = .ok (.iconst 0, 1) := by decide +kernel
theorem dc_NL_init_13 : decode prog_6_method_1_code 13 = .ok (.istore_n 1, 1) := by decide +kernel
theorem dc_NL_init_14 : decode prog_6_method_1_code 14 = .ok (.iload_n 1, 1) := by decide +kernel
theorem dc_NL_init_15 : decode prog_6_method_1_code 15 = .ok (.aload_n 0, 1) := by decide +kernel
theorem dc_NL_init_16 : decode prog_6_method_1_code 16 = .ok (.getfield 11, 3) := by decide +kernel
theorem dc_NL_init_19 : decode prog_6_method_1_code 19 = .ok (.arraylength, 1) := by decide +kernel
theorem dc_NL_init_20 : decode prog_6_method_1_code 20 = .ok (.if_icmp .ge 22, 3) := by decide +kernel
theorem dc_NL_init_23 : decode prog_6_method_1_code 23 = .ok (.aload_n 0, 1) := by decide +kernel
theorem dc_NL_init_24 : decode prog_6_method_1_code 24 = .ok (.getfield 11, 3) := by decide +kernel
theorem dc_NL_init_27 : decode prog_6_method_1_code 27 = .ok (.iload_n 1, 1) := by decide +kernel
theorem dc_NL_init_28 : decode prog_6_method_1_code 28 = .ok (.new 9, 3) := by decide +kernel
theorem dc_NL_init_31 : decode prog_6_method_1_code 31 = .ok (.dup, 1) := by decide +kernel
theorem dc_NL_init_32 : decode prog_6_method_1_code 32 = .ok (.invokespecial 17, 3) := by decide +kernel
theorem dc_NL_init_35 : decode prog_6_method_1_code 35 = .ok (.aastore, 1) := by decide +kernel
theorem dc_NL_init_36 : decode prog_6_method_1_code 36 = .ok (.iinc 1 1, 3) := by decide +kernel
theorem dc_NL_init_39 : decode prog_6_method_1_code 39 = .ok (.goto (-25), 3) := by decide +kernel
theorem dc_NL_init_42 : decode prog_6_method_1_code 42 = .ok (.aload_n 0, 1) := by decide +kernel
theorem dc_NL_init_43 : decode prog_6_method_1_code 43 = .ok (.iconst 0, 1) := by decide +kernel
theorem dc_NL_init_44 : decode prog_6_method_1_code 44 = .ok (.putfield 18, 3) := by decide +kernel
theorem dc_NL_init_47 : decode prog_6_method_1_code 47 = .ok (.return_, 1) := by decide +kernel
theorem dc_NL_covers_0 : decode prog_6_method_2_code 0 = .ok (.iconst 0, 1) := by decide +kernel
theorem dc_NL_covers_1 : decode prog_6_method_2_code 1 = .ok (.istore_n 2, 1) := by decide +kernel
theorem dc_NL_covers_2 : decode prog_6_method_2_code 2 = .ok (.iload_n 2, 1) := by decide +kernel
theorem dc_NL_covers_3 : decode prog_6_method_2_code 3 = .ok (.aload_n 0, 1) := by decide +kernel
theorem dc_NL_covers_4 : decode prog_6_method_2_code 4 = .ok (.getfield 18, 3) := by decide +kernel
theorem dc_NL_covers_7 : decode prog_6_method_2_code 7 = .ok (.if_icmp .ge 24, 3) := by decide +kernel
theorem dc_NL_covers_10 : decode prog_6_method_2_code 10 = .ok (.aload_n 1, 1) := by decide +kernel
theorem dc_NL_covers_11 : decode prog_6_method_2_code 11 = .ok (.aload_n 0, 1) := by decide +kernel
theorem dc_NL_covers_12 : decode prog_6_method_2_code 12 = .ok (.getfield 11, 3) := by decide +kernel
theorem dc_NL_covers_15 : decode prog_6_method_2_code 15 = .ok (.iload_n 2, 1) := by decide +kernel
theorem dc_NL_covers_16 : decode prog_6_method_2_code 16 = .ok (.aaload, 1) := by decide +kernel
theorem dc_NL_covers_17 : decode prog_6_method_2_code 17 = .ok (.invokevirtual 22, 3) := by decide +kernel
theorem dc_NL_covers_20 : decode prog_6_method_2_code 20 = .ok (.ifCond .eq 5, 3) := by decide +kernel
theorem dc_NL_covers_23 : decode prog_6_method_2_code 23 = .ok (.iconst 1, 1) := by decide +kernel
theorem dc_NL_covers_24 : decode prog_6_method_2_code 24 = .ok (.ireturn, 1) := by decide +kernel
theorem dc_NL_covers_25 : decode prog_6_method_2_code 25 = .ok (.iinc 2 1, 3) := by decide +kernel
theorem dc_NL_covers_28 : decode prog_6_method_2_code 28 = .ok (.goto (-26), 3) := by decide +kernel
theorem dc_NL_covers_31 : decode prog_6_method_2_code 31 = .ok (.iconst 0, 1) := by decide +kernel
theorem dc_NL_covers_32 : decode prog_6_method_2_code 32 = .ok (.ireturn, 1) := by decide +kernel
theorem dc_NL_readIfThere_0 : decode prog_6_method_3_code 0 = .ok (.aload_n 0, 1) := by decide +kernel
theorem dc_NL_readIfThere_1 : decode prog_6_method_3_code 1 = .ok (.iconst 0, 1) := by decide +kernel
theorem dc_NL_readIfThere_2 : decode prog_6_method_3_code 2 = .ok (.putfield 18, 3) := by decide +kernel
theorem dc_NL_readIfThere_5 : decode prog_6_method_3_code 5 = .ok (.aload_n 1, 1) := by decide +kernel
theorem dc_NL_readIfThere_6 : decode prog_6_method_3_code 6 = .ok (.iload_n 2, 1) := by decide +kernel
theorem dc_NL_readIfThere_7 : decode prog_6_method_3_code 7 = .ok (.invokevirtual 26, 3) := by decide +kernel
theorem dc_NL_readIfThere_10 : decode prog_6_method_3_code 10 = .ok (.ifCond .ne 4, 3) := by decide +kernel
theorem dc_NL_readIfThere_13 : decode prog_6_method_3_code 13 = .ok (.return_, 1) := by decide +kernel
theorem dc_NL_readIfThere_14 : decode prog_6_method_3_code 14 = .ok (.aload_n 1, 1) := by decide +kernel
theorem dc_NL_readIfThere_15 : decode prog_6_method_3_code 15 = .ok (.iload_n 2, 1) := by decide +kernel
theorem dc_NL_readIfThere_16 : decode prog_6_method_3_code 16 = .ok (.invokevirtual 32, 3) := by decide +kernel
theorem dc_NL_readIfThere_19 : decode prog_6_method_3_code 19 = .ok (.aload_n 0, 1) := by decide +kernel
theorem dc_NL_readIfThere_20 : decode prog_6_method_3_code 20 = .ok (.getfield 11, 3) := by decide +kernel
theorem dc_NL_readIfThere_23 : decode prog_6_method_3_code 23 = .ok (.aload_n 0, 1) := by decide +kernel
theorem dc_NL_readIfThere_24 : decode prog_6_method_3_code 24 = .ok (.getfield 18, 3) := by decide +kernel
theorem dc_NL_readIfThere_27 : decode prog_6_method_3_code 27 = .ok (.aaload, 1) := by decide +kernel
theorem dc_NL_readIfThere_28 : decode prog_6_method_3_code 28 = .ok (.aload_n 1, 1) := by decide +kernel
theorem dc_NL_readIfThere_29 : decode prog_6_method_3_code 29 = .ok (.invokevirtual 36, 3) := by decide +kernel
theorem dc_NL_readIfThere_32 : decode prog_6_method_3_code 32 = .ok (.aload_n 0, 1) := by decide +kernel
theorem dc_NL_readIfThere_33 : decode prog_6_method_3_code 33 = .ok (.dup, 1) := by decide +kernel
theorem dc_NL_readIfThere_34 : decode prog_6_method_3_code 34 = .ok (.getfield 18, 3) := by decide +kernel
theorem dc_NL_readIfThere_37 : decode prog_6_method_3_code 37 = .ok (.iconst 1, 1) := by decide +kernel
theorem dc_NL_readIfThere_38 : decode prog_6_method_3_code 38 = .ok (.iadd, 1) := by decide +kernel
theorem dc_NL_readIfThere_39 : decode prog_6_method_3_code 39 = .ok (.putfield 18, 3) := by decide +kernel
theorem dc_NL_readIfThere_42 : decode prog_6_method_3_code 42 = .ok (.aload_n 1, 1) := by decide +kernel
theorem dc_NL_readIfThere_43 : decode prog_6_method_3_code 43 = .ok (.invokevirtual 40, 3) := by decide +kernel
theorem dc_NL_readIfThere_46 : decode prog_6_method_3_code 46 = .ok (.ifCond .le 15, 3) := by decide +kernel
theorem dc_NL_readIfThere_49 : decode prog_6_method_3_code 49 = .ok (.aload_n 0, 1) := by decide +kernel
theorem dc_NL_readIfThere_50 : decode prog_6_method_3_code 50 = .ok (.getfield 18, 3) := by decide +kernel
theorem dc_NL_readIfThere_53 : decode prog_6_method_3_code 53 = .ok (.aload_n 0, 1) := by decide +kernel
theorem dc_NL_readIfThere_54 : decode prog_6_method_3_code 54 = .ok (.getfield 11, 3) := by decide +kernel
theorem dc_NL_readIfThere_57 : decode prog_6_method_3_code 57 = .ok (.arraylength, 1) := by decide +kernel
theorem dc_NL_readIfThere_58 : decode prog_6_method_3_code 58 = .ok (.if_icmp .lt (-39), 3) := by decide +kernel
theorem dc_NL_readIfThere_61 : decode prog_6_method_3_code 61 = .ok (.aload_n 1, 1) := by decide +kernel
theorem dc_NL_readIfThere_62 : decode prog_6_method_3_code 62 = .ok (.invokevirtual 44, 3) := by decide +kernel
theorem dc_NL_readIfThere_65 : decode prog_6_method_3_code 65 = .ok (.return_, 1) := by decide +kernel
theorem dc_NL_writeIfThere_0 : decode prog_6_method_4_code 0 = .ok (.aload_n 0, 1) := by decide +kernel
theorem dc_NL_writeIfThere_1 : decode prog_6_method_4_code 1 = .ok (.getfield 18, 3) := by decide +kernel
theorem dc_NL_writeIfThere_4 : decode prog_6_method_4_code 4 = .ok (.ifCond .ne 4, 3) := by decide +kernel
theorem dc_NL_writeIfThere_7 : decode prog_6_method_4_code 7 = .ok (.return_, 1) := by decide +kernel
theorem dc_NL_writeIfThere_8 : decode prog_6_method_4_code 8 = .ok (.aload_n 1, 1) := by decide +kernel
theorem dc_NL_writeIfThere_9 : decode prog_6_method_4_code 9 = .ok (.iload_n 2, 1) := by decide +kernel
theorem dc_NL_writeIfThere_10 : decode prog_6_method_4_code 10 = .ok (.invokevirtual 47, 3) := by decide +kernel
theorem dc_NL_writeIfThere_13 : decode prog_6_method_4_code 13 = .ok (.istore_n 3, 1) := by decide +kernel
theorem dc_NL_writeIfThere_14 : decode prog_6_method_4_code 14 = .ok (.iconst 0, 1) := by decide +kernel
theorem dc_NL_writeIfThere_15 : decode prog_6_method_4_code 15 = .ok (.istore 4, 2) := by decide +kernel
theorem dc_NL_writeIfThere_17 : decode prog_6_method_4_code 17 = .ok (.iload 4, 2) := by decide +kernel
theorem dc_NL_writeIfThere_19 : decode prog_6_method_4_code 19 = .ok (.aload_n 0, 1) := by decide +kernel
theorem dc_NL_writeIfThere_20 : decode prog_6_method_4_code 20 = .ok (.getfield 18, 3) := by decide +kernel
theorem dc_NL_writeIfThere_23 : decode prog_6_method_4_code 23 = .ok (.if_icmp .ge 20, 3) := by decide +kernel
theorem dc_NL_writeIfThere_26 : decode prog_6_method_4_code 26 = .ok (.aload_n 0, 1) := by decide +kernel
theorem dc_NL_writeIfThere_27 : decode prog_6_method_4_code 27 = .ok (.getfield 11, 3) := by decide +kernel
theorem dc_NL_writeIfThere_30 : decode prog_6_method_4_code 30 = .ok (.iload 4, 2) := by decide +kernel
theorem dc_NL_writeIfThere_32 : decode prog_6_method_4_code 32 = .ok (.aaload, 1) := by decide +kernel
theorem dc_NL_writeIfThere_33 : decode prog_6_method_4_code 33 = .ok (.aload_n 1, 1) := by decide +kernel
theorem dc_NL_writeIfThere_34 : decode prog_6_method_4_code 34 = .ok (.invokevirtual 53, 3) := by decide +kernel
theorem dc_NL_writeIfThere_37 : decode prog_6_method_4_code 37 = .ok (.iinc 4 1, 3) := by decide +kernel
theorem dc_NL_writeIfThere_40 : decode prog_6_method_4_code 40 = .ok (.goto (-23), 3) := by decide +kernel
theorem dc_NL_writeIfThere_43 : decode prog_6_method_4_code 43 = .ok (.aload_n 1, 1) := by decide +kernel
theorem dc_NL_writeIfThere_44 : decode prog_6_method_4_code 44 = .ok (.iload_n 3, 1) := by decide +kernel
theorem dc_NL_writeIfThere_45 : decode prog_6_method_4_code 45 = .ok (.invokevirtual 57, 3) := by decide +kernel
theorem dc_NL_writeIfThere_48 : decode prog_6_method_4_code 48 = .ok (.return_, 1) := by decide +kernel
