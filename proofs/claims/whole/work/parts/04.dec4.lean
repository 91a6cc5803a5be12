theorem dLo_add_60 : decode cLo_add 60 = .ok (.getfield 30, 3) := by decide +kernel
theorem dLo_add_63 : decode cLo_add 63 = .ok (.iconst (-1), 1) := by decide +kernel
theorem dLo_add_64 : decode cLo_add 64 = .ok (.iastore, 1) := by decide +kernel
theorem dLo_add_65 : decode cLo_add 65 = .ok (.aload_n 0, 1) := by decide +kernel
theorem dLo_add_66 : decode cLo_add 66 = .ok (.dup, 1) := by decide +kernel
theorem dLo_add_67 : decode cLo_add 67 = .ok (.getfield 30, 3) := by decide +kernel
theorem dLo_add_70 : decode cLo_add 70 = .ok (.iconst 1, 1) := by decide +kernel
theorem dLo_add_71 : decode cLo_add 71 = .ok (.iadd, 1) := by decide +kernel
theorem dLo_add_72 : decode cLo_add 72 = .ok (.putfield 30, 3) := by decide +kernel
theorem dLo_add_75 : decode cLo_add 75 = .ok (.return_, 1) := by decide +kernel
theorem dLo_freeName_0 : decode cLo_freeName 0 = .ok (.iload_n 1, 1) := by decide +kernel
theorem dLo_freeName_1 : decode cLo_freeName 1 = .ok (.bipush 100, 2) := by decide +kernel
theorem dLo_freeName_3 : decode cLo_freeName 3 = .ok (.imul, 1) := by decide +kernel
theorem dLo_freeName_4 : decode cLo_freeName 4 = .ok (.istore_n 2, 1) := by decide +kernel
theorem dLo_freeName_5 : decode cLo_freeName 5 = .ok (.iconst 0, 1) := by decide +kernel
theorem dLo_freeName_6 : decode cLo_freeName 6 = .ok (.istore_n 3, 1) := by decide +kernel
theorem dLo_freeName_7 : decode cLo_freeName 7 = .ok (.iload_n 3, 1) := by decide +kernel
theorem dLo_freeName_8 : decode cLo_freeName 8 = .ok (.bipush 99, 2) := by decide +kernel
theorem dLo_freeName_10 : decode cLo_freeName 10 = .ok (.if_icmp .ge 21, 3) := by decide +kernel
theorem dLo_freeName_13 : decode cLo_freeName 13 = .ok (.aload_n 0, 1) := by decide +kernel
theorem dLo_freeName_14 : decode cLo_freeName 14 = .ok (.iload_n 2, 1) := by decide +kernel
theorem dLo_freeName_15 : decode cLo_freeName 15 = .ok (.invokevirtual 38, 3) := by decide +kernel
theorem dLo_freeName_18 : decode cLo_freeName 18 = .ok (.iconst (-1), 1) := by decide +kernel
theorem dLo_freeName_19 : decode cLo_freeName 19 = .ok (.if_icmp .eq 12, 3) := by decide +kernel
theorem dLo_freeName_22 : decode cLo_freeName 22 = .ok (.iinc 2 1, 3) := by decide +kernel
theorem dLo_freeName_25 : decode cLo_freeName 25 = .ok (.iinc 3 1, 3) := by decide +kernel
theorem dLo_freeName_28 : decode cLo_freeName 28 = .ok (.goto (-21), 3) := by decide +kernel
theorem dLo_freeName_31 : decode cLo_freeName 31 = .ok (.iload_n 2, 1) := by decide +kernel
theorem dLo_freeName_32 : decode cLo_freeName 32 = .ok (.ireturn, 1) := by decide +kernel
theorem dLo_bearerOf_0 : decode cLo_bearerOf 0 = .ok (.iconst 0, 1) := by decide +kernel
theorem dLo_bearerOf_1 : decode cLo_bearerOf 1 = .ok (.istore_n 2, 1) := by decide +kernel
theorem dLo_bearerOf_2 : decode cLo_bearerOf 2 = .ok (.iload_n 2, 1) := by decide +kernel
theorem dLo_bearerOf_3 : decode cLo_bearerOf 3 = .ok (.aload_n 0, 1) := by decide +kernel
theorem dLo_bearerOf_4 : decode cLo_bearerOf 4 = .ok (.getfield 30, 3) := by decide +kernel
theorem dLo_bearerOf_7 : decode cLo_bearerOf 7 = .ok (.if_icmp .ge 29, 3) := by decide +kernel
theorem dLo_bearerOf_10 : decode cLo_bearerOf 10 = .ok (.aload_n 0, 1) := by decide +kernel
theorem dLo_bearerOf_11 : decode cLo_bearerOf 11 = .ok (.getfield 15, 3) := by decide +kernel
theorem dLo_bearerOf_14 : decode cLo_bearerOf 14 = .ok (.iload_n 2, 1) := by decide +kernel
theorem dLo_bearerOf_15 : decode cLo_bearerOf 15 = .ok (.iaload, 1) := by decide +kernel
theorem dLo_bearerOf_16 : decode cLo_bearerOf 16 = .ok (.iload_n 1, 1) := by decide +kernel
theorem dLo_bearerOf_17 : decode cLo_bearerOf 17 = .ok (.if_icmp .ne 13, 3) := by decide +kernel
theorem dLo_bearerOf_20 : decode cLo_bearerOf 20 = .ok (.aload_n 0, 1) := by decide +kernel
theorem dLo_bearerOf_21 : decode cLo_bearerOf 21 = .ok (.iload_n 2, 1) := by decide +kernel
theorem dLo_bearerOf_22 : decode cLo_bearerOf 22 = .ok (.invokevirtual 41, 3) := by decide +kernel
theorem dLo_bearerOf_25 : decode cLo_bearerOf 25 = .ok (.ifCond .eq 5, 3) := by decide +kernel
theorem dLo_bearerOf_28 : decode cLo_bearerOf 28 = .ok (.iload_n 2, 1) := by decide +kernel
theorem dLo_bearerOf_29 : decode cLo_bearerOf 29 = .ok (.ireturn, 1) := by decide +kernel
theorem dLo_bearerOf_30 : decode cLo_bearerOf 30 = .ok (.iinc 2 1, 3) := by decide +kernel
theorem dLo_bearerOf_33 : decode cLo_bearerOf 33 = .ok (.goto (-31), 3) := by decide +kernel
theorem dLo_bearerOf_36 : decode cLo_bearerOf 36 = .ok (.iconst (-1), 1) := by decide +kernel
theorem dLo_bearerOf_37 : decode cLo_bearerOf 37 = .ok (.ireturn, 1) := by decide +kernel
theorem dLo_isLent_0 : decode cLo_isLent 0 = .ok (.aload_n 0, 1) := by decide +kernel
theorem dLo_isLent_1 : decode cLo_isLent 1 = .ok (.getfield 27, 3) := by decide +kernel
theorem dLo_isLent_4 : decode cLo_isLent 4 = .ok (.iload_n 1, 1) := by decide +kernel
theorem dLo_isLent_5 : decode cLo_isLent 5 = .ok (.iaload, 1) := by decide +kernel
theorem dLo_isLent_6 : decode cLo_isLent 6 = .ok (.iconst (-1), 1) := by decide +kernel
theorem dLo_isLent_7 : decode cLo_isLent 7 = .ok (.if_icmp .ne 7, 3) := by decide +kernel
theorem dLo_isLent_10 : decode cLo_isLent 10 = .ok (.iconst 1, 1) := by decide +kernel
theorem dLo_isLent_11 : decode cLo_isLent 11 = .ok (.goto 4, 3) := by decide +kernel
theorem dLo_isLent_14 : decode cLo_isLent 14 = .ok (.iconst 0, 1) := by decide +kernel
theorem dLo_isLent_15 : decode cLo_isLent 15 = .ok (.ireturn, 1) := by decide +kernel
theorem dLo_lent_0 : decode cLo_lent 0 = .ok (.iconst 0, 1) := by decide +kernel
theorem dLo_lent_1 : decode cLo_lent 1 = .ok (.istore_n 1, 1) := by decide +kernel
theorem dLo_lent_2 : decode cLo_lent 2 = .ok (.iconst 0, 1) := by decide +kernel
theorem dLo_lent_3 : decode cLo_lent 3 = .ok (.istore_n 2, 1) := by decide +kernel
theorem dLo_lent_4 : decode cLo_lent 4 = .ok (.iload_n 2, 1) := by decide +kernel
theorem dLo_lent_5 : decode cLo_lent 5 = .ok (.aload_n 0, 1) := by decide +kernel
theorem dLo_lent_6 : decode cLo_lent 6 = .ok (.getfield 30, 3) := by decide +kernel
theorem dLo_lent_9 : decode cLo_lent 9 = .ok (.if_icmp .ge 20, 3) := by decide +kernel
theorem dLo_lent_12 : decode cLo_lent 12 = .ok (.aload_n 0, 1) := by decide +kernel
theorem dLo_lent_13 : decode cLo_lent 13 = .ok (.iload_n 2, 1) := by decide +kernel
theorem dLo_lent_14 : decode cLo_lent 14 = .ok (.invokevirtual 41, 3) := by decide +kernel
theorem dLo_lent_17 : decode cLo_lent 17 = .ok (.ifCond .eq 6, 3) := by decide +kernel
theorem dLo_lent_20 : decode cLo_lent 20 = .ok (.iinc 1 1, 3) := by decide +kernel
theorem dLo_lent_23 : decode cLo_lent 23 = .ok (.iinc 2 1, 3) := by decide +kernel
theorem dLo_lent_26 : decode cLo_lent 26 = .ok (.goto (-22), 3) := by decide +kernel
theorem dLo_lent_29 : decode cLo_lent 29 = .ok (.iload_n 1, 1) := by decide +kernel
theorem dLo_lent_30 : decode cLo_lent 30 = .ok (.ireturn, 1) := by decide +kernel
theorem dLo_lentUnder_0 : decode cLo_lentUnder 0 = .ok (.iconst 0, 1) := by decide +kernel
theorem dLo_lentUnder_1 : decode cLo_lentUnder 1 = .ok (.istore_n 2, 1) := by decide +kernel
theorem dLo_lentUnder_2 : decode cLo_lentUnder 2 = .ok (.iconst 0, 1) := by decide +kernel
theorem dLo_lentUnder_3 : decode cLo_lentUnder 3 = .ok (.istore_n 3, 1) := by decide +kernel
theorem dLo_lentUnder_4 : decode cLo_lentUnder 4 = .ok (.iload_n 3, 1) := by decide +kernel
theorem dLo_lentUnder_5 : decode cLo_lentUnder 5 = .ok (.aload_n 0, 1) := by decide +kernel
theorem dLo_lentUnder_6 : decode cLo_lentUnder 6 = .ok (.getfield 30, 3) := by decide +kernel
theorem dLo_lentUnder_9 : decode cLo_lentUnder 9 = .ok (.if_icmp .ge 30, 3) := by decide +kernel
theorem dLo_lentUnder_12 : decode cLo_lentUnder 12 = .ok (.aload_n 0, 1) := by decide +kernel
theorem dLo_lentUnder_13 : decode cLo_lentUnder 13 = .ok (.getfield 21, 3) := by decide +kernel
theorem dLo_lentUnder_16 : decode cLo_lentUnder 16 = .ok (.iload_n 3, 1) := by decide +kernel
theorem dLo_lentUnder_17 : decode cLo_lentUnder 17 = .ok (.iaload, 1) := by decide +kernel
theorem dLo_lentUnder_18 : decode cLo_lentUnder 18 = .ok (.iload_n 1, 1) := by decide +kernel
theorem dLo_lentUnder_19 : decode cLo_lentUnder 19 = .ok (.if_icmp .ne 14, 3) := by decide +kernel
theorem dLo_lentUnder_22 : decode cLo_lentUnder 22 = .ok (.aload_n 0, 1) := by decide +kernel
theorem dLo_lentUnder_23 : decode cLo_lentUnder 23 = .ok (.iload_n 3, 1) := by decide +kernel
theorem dLo_lentUnder_24 : decode cLo_lentUnder 24 = .ok (.invokevirtual 41, 3) := by decide +kernel
theorem dLo_lentUnder_27 : decode cLo_lentUnder 27 = .ok (.ifCond .eq 6, 3) := by decide +kernel
theorem dLo_lentUnder_30 : decode cLo_lentUnder 30 = .ok (.iinc 2 1, 3) := by decide +kernel
theorem dLo_lentUnder_33 : decode cLo_lentUnder 33 = .ok (.iinc 3 1, 3) := by decide +kernel
theorem dLo_lentUnder_36 : decode cLo_lentUnder 36 = .ok (.goto (-32), 3) := by decide +kernel
theorem dLo_lentUnder_39 : decode cLo_lentUnder 39 = .ok (.iload_n 2, 1) := by decide +kernel
theorem dLo_lentUnder_40 : decode cLo_lentUnder 40 = .ok (.ireturn, 1) := by decide +kernel
theorem dNu_init_0 : decode cNu_init 0 = .ok (.aload_n 0, 1) := by decide +kernel
theorem dNu_init_1 : decode cNu_init 1 = .ok (.invokespecial 3, 3) := by decide +kernel
theorem dNu_init_4 : decode cNu_init 4 = .ok (.aload_n 0, 1) := by decide +kernel
theorem dNu_init_5 : decode cNu_init 5 = .ok (.sipush 500, 3) := by decide +kernel
theorem dNu_init_8 : decode cNu_init 8 = .ok (.newarray .long, 2) := by decide +kernel
theorem dNu_init_10 : decode cNu_init 10 = .ok (.putfield 11, 3) := by decide +kernel
theorem dNu_init_13 : decode cNu_init 13 = .ok (.return_, 1) := by decide +kernel
theorem dNu_stateOf_0 : decode cNu_stateOf 0 = .ok (.iload_n 1, 1) := by decide +kernel
theorem dNu_stateOf_1 : decode cNu_stateOf 1 = .ok (.iload_n 2, 1) := by decide +kernel
theorem dNu_stateOf_2 : decode cNu_stateOf 2 = .ok (.invokestatic 15, 3) := by decide +kernel
theorem dNu_stateOf_5 : decode cNu_stateOf 5 = .ok (.istore_n 3, 1) := by decide +kernel
theorem dNu_stateOf_6 : decode cNu_stateOf 6 = .ok (.aload_n 0, 1) := by decide +kernel
theorem dNu_stateOf_7 : decode cNu_stateOf 7 = .ok (.getfield 11, 3) := by decide +kernel
theorem dNu_stateOf_10 : decode cNu_stateOf 10 = .ok (.iload_n 3, 1) := by decide +kernel
theorem dNu_stateOf_11 : decode cNu_stateOf 11 = .ok (.bipush 16, 2) := by decide +kernel
theorem dNu_stateOf_13 : decode cNu_stateOf 13 = .ok (.idiv, 1) := by decide +kernel
theorem dNu_stateOf_14 : decode cNu_stateOf 14 = .ok (.laload, 1) := by decide +kernel
theorem dNu_stateOf_15 : decode cNu_stateOf 15 = .ok (.iload_n 3, 1) := by decide +kernel
theorem dNu_stateOf_16 : decode cNu_stateOf 16 = .ok (.invokestatic 19, 3) := by decide +kernel
theorem dNu_stateOf_19 : decode cNu_stateOf 19 = .ok (.lushr, 1) := by decide +kernel
theorem dNu_stateOf_20 : decode cNu_stateOf 20 = .ok (.l2i, 1) := by decide +kernel
theorem dNu_stateOf_21 : decode cNu_stateOf 21 = .ok (.bipush 15, 2) := by decide +kernel
theorem dNu_stateOf_23 : decode cNu_stateOf 23 = .ok (.iand, 1) := by decide +kernel
theorem dNu_stateOf_24 : decode cNu_stateOf 24 = .ok (.ireturn, 1) := by decide +kernel
theorem dNu_keep_0 : decode cNu_keep 0 = .ok (.iload_n 1, 1) := by decide +kernel
theorem dNu_keep_1 : decode cNu_keep 1 = .ok (.iload_n 2, 1) := by decide +kernel
theorem dNu_keep_2 : decode cNu_keep 2 = .ok (.invokestatic 15, 3) := by decide +kernel
theorem dNu_keep_5 : decode cNu_keep 5 = .ok (.istore 4, 2) := by decide +kernel
theorem dNu_keep_7 : decode cNu_keep 7 = .ok (.aload_n 0, 1) := by decide +kernel
theorem dNu_keep_8 : decode cNu_keep 8 = .ok (.getfield 11, 3) := by decide +kernel
theorem dNu_keep_11 : decode cNu_keep 11 = .ok (.iload 4, 2) := by decide +kernel
theorem dNu_keep_13 : decode cNu_keep 13 = .ok (.bipush 16, 2) := by decide +kernel
theorem dNu_keep_15 : decode cNu_keep 15 = .ok (.idiv, 1) := by decide +kernel
theorem dNu_keep_16 : decode cNu_keep 16 = .ok (.dup2, 1) := by decide +kernel
theorem dNu_keep_17 : decode cNu_keep 17 = .ok (.laload, 1) := by decide +kernel
theorem dNu_keep_18 : decode cNu_keep 18 = .ok (.iload_n 3, 1) := by decide +kernel
theorem dNu_keep_19 : decode cNu_keep 19 = .ok (.i2l, 1) := by decide +kernel
theorem dNu_keep_20 : decode cNu_keep 20 = .ok (.iload 4, 2) := by decide +kernel
theorem dNu_keep_22 : decode cNu_keep 22 = .ok (.invokestatic 19, 3) := by decide +kernel
theorem dNu_keep_25 : decode cNu_keep 25 = .ok (.lshl, 1) := by decide +kernel
theorem dNu_keep_26 : decode cNu_keep 26 = .ok (.lor, 1) := by decide +kernel
theorem dNu_keep_27 : decode cNu_keep 27 = .ok (.lastore, 1) := by decide +kernel
theorem dNu_keep_28 : decode cNu_keep 28 = .ok (.return_, 1) := by decide +kernel
theorem dNu_placeOf_0 : decode cNu_placeOf 0 = .ok (.iload_n 0, 1) := by decide +kernel
theorem dNu_placeOf_1 : decode cNu_placeOf 1 = .ok (.sipush 1000, 3) := by decide +kernel
theorem dNu_placeOf_4 : decode cNu_placeOf 4 = .ok (.imul, 1) := by decide +kernel
theorem dNu_placeOf_5 : decode cNu_placeOf 5 = .ok (.iload_n 1, 1) := by decide +kernel
theorem dNu_placeOf_6 : decode cNu_placeOf 6 = .ok (.iadd, 1) := by decide +kernel
theorem dNu_placeOf_7 : decode cNu_placeOf 7 = .ok (.ireturn, 1) := by decide +kernel
theorem dNu_shiftOf_0 : decode cNu_shiftOf 0 = .ok (.iload_n 0, 1) := by decide +kernel
theorem dNu_shiftOf_1 : decode cNu_shiftOf 1 = .ok (.bipush 16, 2) := by decide +kernel
theorem dNu_shiftOf_3 : decode cNu_shiftOf 3 = .ok (.irem, 1) := by decide +kernel
theorem dNu_shiftOf_4 : decode cNu_shiftOf 4 = .ok (.iconst 4, 1) := by decide +kernel
theorem dNu_shiftOf_5 : decode cNu_shiftOf 5 = .ok (.imul, 1) := by decide +kernel
theorem dNu_shiftOf_6 : decode cNu_shiftOf 6 = .ok (.ireturn, 1) := by decide +kernel
theorem dB_init_0 : decode cB_init 0 = .ok (.aload_n 0, 1) := by decide +kernel
theorem dB_init_1 : decode cB_init 1 = .ok (.invokespecial 1, 3) := by decide +kernel
theorem dB_init_4 : decode cB_init 4 = .ok (.aload_n 0, 1) := by decide +kernel
theorem dB_init_5 : decode cB_init 5 = .ok (.bipush 8, 2) := by decide +kernel
theorem dB_init_7 : decode cB_init 7 = .ok (.newarray .int, 2) := by decide +kernel
theorem dB_init_9 : decode cB_init 9 = .ok (.putfield 7, 3) := by decide +kernel
theorem dB_init_12 : decode cB_init 12 = .ok (.aload_n 0, 1) := by decide +kernel
theorem dB_init_13 : decode cB_init 13 = .ok (.bipush 8, 2) := by decide +kernel
theorem dB_init_15 : decode cB_init 15 = .ok (.newarray .int, 2) := by decide +kernel
theorem dB_init_17 : decode cB_init 17 = .ok (.putfield 13, 3) := by decide +kernel
theorem dB_init_20 : decode cB_init 20 = .ok (.aload_n 0, 1) := by decide +kernel
theorem dB_init_21 : decode cB_init 21 = .ok (.bipush 8, 2) := by decide +kernel
theorem dB_init_23 : decode cB_init 23 = .ok (.newarray .boolean, 2) := by decide +kernel
theorem dB_init_25 : decode cB_init 25 = .ok (.putfield 16, 3) := by decide +kernel
theorem dB_init_28 : decode cB_init 28 = .ok (.aload_n 0, 1) := by decide +kernel
theorem dB_init_29 : decode cB_init 29 = .ok (.bipush 30, 2) := by decide +kernel
theorem dB_init_31 : decode cB_init 31 = .ok (.newarray .int, 2) := by decide +kernel
theorem dB_init_33 : decode cB_init 33 = .ok (.putfield 20, 3) := by decide +kernel
theorem dB_init_36 : decode cB_init 36 = .ok (.aload_n 0, 1) := by decide +kernel
theorem dB_init_37 : decode cB_init 37 = .ok (.bipush 30, 2) := by decide +kernel
theorem dB_init_39 : decode cB_init 39 = .ok (.newarray .int, 2) := by decide +kernel
theorem dB_init_41 : decode cB_init 41 = .ok (.putfield 23, 3) := by decide +kernel
theorem dB_init_44 : decode cB_init 44 = .ok (.aload_n 0, 1) := by decide +kernel
theorem dB_init_45 : decode cB_init 45 = .ok (.bipush 30, 2) := by decide +kernel
theorem dB_init_47 : decode cB_init 47 = .ok (.newarray .int, 2) := by decide +kernel
theorem dB_init_49 : decode cB_init 49 = .ok (.putfield 26, 3) := by decide +kernel
theorem dB_init_52 : decode cB_init 52 = .ok (.aload_n 0, 1) := by decide +kernel
theorem dB_init_53 : decode cB_init 53 = .ok (.bipush 30, 2) := by decide +kernel
theorem dB_init_55 : decode cB_init 55 = .ok (.newarray .int, 2) := by decide +kernel
theorem dB_init_57 : decode cB_init 57 = .ok (.putfield 29, 3) := by decide +kernel
theorem dB_init_60 : decode cB_init 60 = .ok (.aload_n 0, 1) := by decide +kernel
theorem dB_init_61 : decode cB_init 61 = .ok (.bipush 30, 2) := by decide +kernel
theorem dB_init_63 : decode cB_init 63 = .ok (.newarray .int, 2) := by decide +kernel
theorem dB_init_65 : decode cB_init 65 = .ok (.putfield 32, 3) := by decide +kernel
theorem dB_init_68 : decode cB_init 68 = .ok (.aload_n 0, 1) := by decide +kernel
theorem dB_init_69 : decode cB_init 69 = .ok (.bipush 30, 2) := by decide +kernel
theorem dB_init_71 : decode cB_init 71 = .ok (.newarray .int, 2) := by decide +kernel
theorem dB_init_73 : decode cB_init 73 = .ok (.putfield 35, 3) := by decide +kernel
theorem dB_init_76 : decode cB_init 76 = .ok (.aload_n 0, 1) := by decide +kernel
theorem dB_init_77 : decode cB_init 77 = .ok (.bipush 30, 2) := by decide +kernel
theorem dB_init_79 : decode cB_init 79 = .ok (.newarray .int, 2) := by decide +kernel
theorem dB_init_81 : decode cB_init 81 = .ok (.putfield 38, 3) := by decide +kernel
theorem dB_init_84 : decode cB_init 84 = .ok (.aload_n 0, 1) := by decide +kernel
theorem dB_init_85 : decode cB_init 85 = .ok (.bipush 30, 2) := by decide +kernel
theorem dB_init_87 : decode cB_init 87 = .ok (.newarray .int, 2) := by decide +kernel
theorem dB_init_89 : decode cB_init 89 = .ok (.putfield 41, 3) := by decide +kernel
theorem dB_init_92 : decode cB_init 92 = .ok (.aload_n 0, 1) := by decide +kernel
theorem dB_init_93 : decode cB_init 93 = .ok (.bipush 30, 2) := by decide +kernel
theorem dB_init_95 : decode cB_init 95 = .ok (.newarray .int, 2) := by decide +kernel
theorem dB_init_97 : decode cB_init 97 = .ok (.putfield 44, 3) := by decide +kernel
theorem dB_init_100 : decode cB_init 100 = .ok (.aload_n 0, 1) := by decide +kernel
theorem dB_init_101 : decode cB_init 101 = .ok (.bipush 30, 2) := by decide +kernel
theorem dB_init_103 : decode cB_init 103 = .ok (.newarray .int, 2) := by decide +kernel
theorem dB_init_105 : decode cB_init 105 = .ok (.putfield 47, 3) := by decide +kernel
theorem dB_init_108 : decode cB_init 108 = .ok (.aload_n 0, 1) := by decide +kernel
theorem dB_init_109 : decode cB_init 109 = .ok (.bipush 30, 2) := by decide +kernel
theorem dB_init_111 : decode cB_init 111 = .ok (.newarray .int, 2) := by decide +kernel
theorem dB_init_113 : decode cB_init 113 = .ok (.putfield 50, 3) := by decide +kernel
theorem dB_init_116 : decode cB_init 116 = .ok (.aload_n 0, 1) := by decide +kernel
theorem dB_init_117 : decode cB_init 117 = .ok (.bipush 30, 2) := by decide +kernel
theorem dB_init_119 : decode cB_init 119 = .ok (.newarray .int, 2) := by decide +kernel
theorem dB_init_121 : decode cB_init 121 = .ok (.putfield 53, 3) := by decide +kernel
theorem dB_init_124 : decode cB_init 124 = .ok (.aload_n 0, 1) := by decide +kernel
theorem dB_init_125 : decode cB_init 125 = .ok (.bipush 30, 2) := by decide +kernel
theorem dB_init_127 : decode cB_init 127 = .ok (.newarray .int, 2) := by decide +kernel
theorem dB_init_129 : decode cB_init 129 = .ok (.putfield 56, 3) := by decide +kernel
theorem dB_init_132 : decode cB_init 132 = .ok (.aload_n 0, 1) := by decide +kernel
theorem dB_init_133 : decode cB_init 133 = .ok (.bipush 30, 2) := by decide +kernel
theorem dB_init_135 : decode cB_init 135 = .ok (.newarray .int, 2) := by decide +kernel
theorem dB_init_137 : decode cB_init 137 = .ok (.putfield 59, 3) := by decide +kernel
theorem dB_init_140 : decode cB_init 140 = .ok (.aload_n 0, 1) := by decide +kernel
theorem dB_init_141 : decode cB_init 141 = .ok (.bipush 30, 2) := by decide +kernel
theorem dB_init_143 : decode cB_init 143 = .ok (.newarray .int, 2) := by decide +kernel
theorem dB_init_145 : decode cB_init 145 = .ok (.putfield 62, 3) := by decide +kernel
theorem dB_init_148 : decode cB_init 148 = .ok (.aload_n 0, 1) := by decide +kernel
theorem dB_init_149 : decode cB_init 149 = .ok (.bipush 30, 2) := by decide +kernel
theorem dB_init_151 : decode cB_init 151 = .ok (.newarray .boolean, 2) := by decide +kernel
theorem dB_init_153 : decode cB_init 153 = .ok (.putfield 65, 3) := by decide +kernel
theorem dB_init_156 : decode cB_init 156 = .ok (.aload_n 0, 1) := by decide +kernel
theorem dB_init_157 : decode cB_init 157 = .ok (.sipush 240, 3) := by decide +kernel
theorem dB_init_160 : decode cB_init 160 = .ok (.newarray .boolean, 2) := by decide +kernel
theorem dB_init_162 : decode cB_init 162 = .ok (.putfield 68, 3) := by decide +kernel
theorem dB_init_165 : decode cB_init 165 = .ok (.aload_n 0, 1) := by decide +kernel
theorem dB_init_166 : decode cB_init 166 = .ok (.bipush 100, 2) := by decide +kernel
theorem dB_init_168 : decode cB_init 168 = .ok (.newarray .int, 2) := by decide +kernel
theorem dB_init_170 : decode cB_init 170 = .ok (.putfield 71, 3) := by decide +kernel
theorem dB_init_173 : decode cB_init 173 = .ok (.aload_n 0, 1) := by decide +kernel
theorem dB_init_174 : decode cB_init 174 = .ok (.bipush 100, 2) := by decide +kernel
theorem dB_init_176 : decode cB_init 176 = .ok (.newarray .int, 2) := by decide +kernel
theorem dB_init_178 : decode cB_init 178 = .ok (.putfield 74, 3) := by decide +kernel
theorem dB_init_181 : decode cB_init 181 = .ok (.aload_n 0, 1) := by decide +kernel
theorem dB_init_182 : decode cB_init 182 = .ok (.bipush 100, 2) := by decide +kernel
theorem dB_init_184 : decode cB_init 184 = .ok (.newarray .int, 2) := by decide +kernel
theorem dB_init_186 : decode cB_init 186 = .ok (.putfield 77, 3) := by decide +kernel
theorem dB_init_189 : decode cB_init 189 = .ok (.aload_n 0, 1) := by decide +kernel
theorem dB_init_190 : decode cB_init 190 = .ok (.bipush 100, 2) := by decide +kernel
theorem dB_init_192 : decode cB_init 192 = .ok (.newarray .int, 2) := by decide +kernel
theorem dB_init_194 : decode cB_init 194 = .ok (.putfield 80, 3) := by decide +kernel
theorem dB_init_197 : decode cB_init 197 = .ok (.aload_n 0, 1) := by decide +kernel
theorem dB_init_198 : decode cB_init 198 = .ok (.bipush 100, 2) := by decide +kernel
theorem dB_init_200 : decode cB_init 200 = .ok (.newarray .int, 2) := by decide +kernel
theorem dB_init_202 : decode cB_init 202 = .ok (.putfield 83, 3) := by decide +kernel
theorem dB_init_205 : decode cB_init 205 = .ok (.aload_n 0, 1) := by decide +kernel
theorem dB_init_206 : decode cB_init 206 = .ok (.bipush 100, 2) := by decide +kernel
theorem dB_init_208 : decode cB_init 208 = .ok (.newarray .int, 2) := by decide +kernel
theorem dB_init_210 : decode cB_init 210 = .ok (.putfield 86, 3) := by decide +kernel
theorem dB_init_213 : decode cB_init 213 = .ok (.aload_n 0, 1) := by decide +kernel
theorem dB_init_214 : decode cB_init 214 = .ok (.sipush 8000, 3) := by decide +kernel
theorem dB_init_217 : decode cB_init 217 = .ok (.newarray .int, 2) := by decide +kernel
theorem dB_init_219 : decode cB_init 219 = .ok (.putfield 89, 3) := by decide +kernel
theorem dB_init_222 : decode cB_init 222 = .ok (.aload_n 0, 1) := by decide +kernel
theorem dB_init_223 : decode cB_init 223 = .ok (.bipush 100, 2) := by decide +kernel
theorem dB_init_225 : decode cB_init 225 = .ok (.newarray .int, 2) := by decide +kernel
theorem dB_init_227 : decode cB_init 227 = .ok (.putfield 92, 3) := by decide +kernel
theorem dB_init_230 : decode cB_init 230 = .ok (.iconst 0, 1) := by decide +kernel
theorem dB_init_231 : decode cB_init 231 = .ok (.istore_n 1, 1) := by decide +kernel
theorem dB_init_232 : decode cB_init 232 = .ok (.iload_n 1, 1) := by decide +kernel
theorem dB_init_233 : decode cB_init 233 = .ok (.bipush 100, 2) := by decide +kernel
theorem dB_init_235 : decode cB_init 235 = .ok (.if_icmp .ge 16, 3) := by decide +kernel
theorem dB_init_238 : decode cB_init 238 = .ok (.aload_n 0, 1) := by decide +kernel
theorem dB_init_239 : decode cB_init 239 = .ok (.getfield 92, 3) := by decide +kernel
theorem dB_init_242 : decode cB_init 242 = .ok (.iload_n 1, 1) := by decide +kernel
theorem dB_init_243 : decode cB_init 243 = .ok (.iconst (-1), 1) := by decide +kernel
theorem dB_init_244 : decode cB_init 244 = .ok (.iastore, 1) := by decide +kernel
theorem dB_init_245 : decode cB_init 245 = .ok (.iinc 1 1, 3) := by decide +kernel
theorem dB_init_248 : decode cB_init 248 = .ok (.goto (-16), 3) := by decide +kernel
theorem dB_init_251 : decode cB_init 251 = .ok (.return_, 1) := by decide +kernel
theorem dB_thrown_0 : decode cB_thrown 0 = .ok (.aload_n 0, 1) := by decide +kernel
theorem dB_thrown_1 : decode cB_thrown 1 = .ok (.getfield 95, 3) := by decide +kernel
theorem dB_thrown_4 : decode cB_thrown 4 = .ok (.ireturn, 1) := by decide +kernel
theorem dB_in_0 : decode cB_in 0 = .ok (.iload_n 0, 1) := by decide +kernel
theorem dB_in_1 : decode cB_in 1 = .ok (.iload_n 1, 1) := by decide +kernel
theorem dB_in_2 : decode cB_in 2 = .ok (.if_icmp .lt 12, 3) := by decide +kernel
theorem dB_in_5 : decode cB_in 5 = .ok (.iload_n 0, 1) := by decide +kernel
theorem dB_in_6 : decode cB_in 6 = .ok (.iload_n 2, 1) := by decide +kernel
theorem dB_in_7 : decode cB_in 7 = .ok (.if_icmp .gt 7, 3) := by decide +kernel
theorem dB_in_10 : decode cB_in 10 = .ok (.iconst 1, 1) := by decide +kernel
theorem dB_in_11 : decode cB_in 11 = .ok (.goto 4, 3) := by decide +kernel
theorem dB_in_14 : decode cB_in 14 = .ok (.iconst 0, 1) := by decide +kernel
theorem dB_in_15 : decode cB_in 15 = .ok (.ireturn, 1) := by decide +kernel
theorem dB_goes_0 : decode cB_goes 0 = .ok (.iload_n 2, 1) := by decide +kernel
theorem dB_goes_1 : decode cB_goes 1 = .ok (.ifCond .ne 7, 3) := by decide +kernel
theorem dB_goes_4 : decode cB_goes 4 = .ok (.iconst 1, 1) := by decide +kernel
theorem dB_goes_5 : decode cB_goes 5 = .ok (.goto 31, 3) := by decide +kernel
theorem dB_goes_8 : decode cB_goes 8 = .ok (.iload_n 3, 1) := by decide +kernel
theorem dB_goes_9 : decode cB_goes 9 = .ok (.ifCond .ne 7, 3) := by decide +kernel
theorem dB_goes_12 : decode cB_goes 12 = .ok (.iconst 2, 1) := by decide +kernel
theorem dB_goes_13 : decode cB_goes 13 = .ok (.goto 23, 3) := by decide +kernel
theorem dB_goes_16 : decode cB_goes 16 = .ok (.iload 4, 2) := by decide +kernel
theorem dB_goes_18 : decode cB_goes 18 = .ok (.ifCond .ne 7, 3) := by decide +kernel
theorem dB_goes_21 : decode cB_goes 21 = .ok (.iconst 4, 1) := by decide +kernel
theorem dB_goes_22 : decode cB_goes 22 = .ok (.goto 14, 3) := by decide +kernel
theorem dB_goes_25 : decode cB_goes 25 = .ok (.iload 5, 2) := by decide +kernel
theorem dB_goes_27 : decode cB_goes 27 = .ok (.ifCond .ne 8, 3) := by decide +kernel
theorem dB_goes_30 : decode cB_goes 30 = .ok (.bipush 8, 2) := by decide +kernel
theorem dB_goes_32 : decode cB_goes 32 = .ok (.goto 4, 3) := by decide +kernel
theorem dB_goes_35 : decode cB_goes 35 = .ok (.iconst 0, 1) := by decide +kernel
theorem dB_goes_36 : decode cB_goes 36 = .ok (.istore 6, 2) := by decide +kernel
theorem dB_goes_38 : decode cB_goes 38 = .ok (.aload_n 0, 1) := by decide +kernel
theorem dB_goes_39 : decode cB_goes 39 = .ok (.iconst 0, 1) := by decide +kernel
theorem dB_goes_40 : decode cB_goes 40 = .ok (.putfield 95, 3) := by decide +kernel
theorem dB_goes_43 : decode cB_goes 43 = .ok (.iconst 1, 1) := by decide +kernel
theorem dB_goes_44 : decode cB_goes 44 = .ok (.istore 7, 2) := by decide +kernel
theorem dB_goes_46 : decode cB_goes 46 = .ok (.iload 7, 2) := by decide +kernel
theorem dB_goes_48 : decode cB_goes 48 = .ok (.iload 6, 2) := by decide +kernel
theorem dB_goes_50 : decode cB_goes 50 = .ok (.if_icmp .gt 29, 3) := by decide +kernel
theorem dB_goes_53 : decode cB_goes 53 = .ok (.iload_n 1, 1) := by decide +kernel
theorem dB_goes_54 : decode cB_goes 54 = .ok (.iload 7, 2) := by decide +kernel
theorem dB_goes_56 : decode cB_goes 56 = .ok (.iand, 1) := by decide +kernel
theorem dB_goes_57 : decode cB_goes 57 = .ok (.ifCond .le 13, 3) := by decide +kernel
theorem dB_goes_60 : decode cB_goes 60 = .ok (.aload_n 0, 1) := by decide +kernel
theorem dB_goes_61 : decode cB_goes 61 = .ok (.dup, 1) := by decide +kernel
theorem dB_goes_62 : decode cB_goes 62 = .ok (.getfield 95, 3) := by decide +kernel
theorem dB_goes_65 : decode cB_goes 65 = .ok (.iconst 1, 1) := by decide +kernel
theorem dB_goes_66 : decode cB_goes 66 = .ok (.iadd, 1) := by decide +kernel
theorem dB_goes_67 : decode cB_goes 67 = .ok (.putfield 95, 3) := by decide +kernel
theorem dB_goes_70 : decode cB_goes 70 = .ok (.iconst 2, 1) := by decide +kernel
theorem dB_goes_71 : decode cB_goes 71 = .ok (.iload 7, 2) := by decide +kernel
theorem dB_goes_73 : decode cB_goes 73 = .ok (.imul, 1) := by decide +kernel
theorem dB_goes_74 : decode cB_goes 74 = .ok (.istore 7, 2) := by decide +kernel
theorem dB_goes_76 : decode cB_goes 76 = .ok (.goto (-30), 3) := by decide +kernel
theorem dB_goes_79 : decode cB_goes 79 = .ok (.iload 6, 2) := by decide +kernel
theorem dB_goes_81 : decode cB_goes 81 = .ok (.ifCond .ne 7, 3) := by decide +kernel
theorem dB_goes_84 : decode cB_goes 84 = .ok (.iconst 1, 1) := by decide +kernel
theorem dB_goes_85 : decode cB_goes 85 = .ok (.goto 4, 3) := by decide +kernel
theorem dB_goes_88 : decode cB_goes 88 = .ok (.iconst 0, 1) := by decide +kernel
theorem dB_goes_89 : decode cB_goes 89 = .ok (.ireturn, 1) := by decide +kernel
theorem dB_isHouse_0 : decode cB_isHouse 0 = .ok (.iload_n 1, 1) := by decide +kernel
theorem dB_isHouse_1 : decode cB_isHouse 1 = .ok (.iconst 0, 1) := by decide +kernel
theorem dB_isHouse_2 : decode cB_isHouse 2 = .ok (.aload_n 0, 1) := by decide +kernel
theorem dB_isHouse_3 : decode cB_isHouse 3 = .ok (.getfield 99, 3) := by decide +kernel
theorem dB_isHouse_6 : decode cB_isHouse 6 = .ok (.iconst 1, 1) := by decide +kernel
theorem dB_isHouse_7 : decode cB_isHouse 7 = .ok (.isub, 1) := by decide +kernel
theorem dB_isHouse_8 : decode cB_isHouse 8 = .ok (.invokestatic 102, 3) := by decide +kernel
theorem dB_isHouse_11 : decode cB_isHouse 11 = .ok (.ireturn, 1) := by decide +kernel
theorem dB_house_0 : decode cB_house 0 = .ok (.aload_n 0, 1) := by decide +kernel
theorem dB_house_1 : decode cB_house 1 = .ok (.bipush 10, 2) := by decide +kernel
theorem dB_house_3 : decode cB_house 3 = .ok (.iconst 1, 1) := by decide +kernel
theorem dB_house_4 : decode cB_house 4 = .ok (.iload_n 1, 1) := by decide +kernel
theorem dB_house_5 : decode cB_house 5 = .ok (.iconst 0, 1) := by decide +kernel
theorem dB_house_6 : decode cB_house 6 = .ok (.bipush 9, 2) := by decide +kernel
theorem dB_house_8 : decode cB_house 8 = .ok (.invokestatic 102, 3) := by decide +kernel
theorem dB_house_11 : decode cB_house 11 = .ok (.ifCond .eq 18, 3) := by decide +kernel
theorem dB_house_14 : decode cB_house 14 = .ok (.iload_n 2, 1) := by decide +kernel
theorem dB_house_15 : decode cB_house 15 = .ok (.iconst 0, 1) := by decide +kernel
theorem dB_house_16 : decode cB_house 16 = .ok (.sipush 1000, 3) := by decide +kernel
theorem dB_house_19 : decode cB_house 19 = .ok (.invokestatic 102, 3) := by decide +kernel
theorem dB_house_22 : decode cB_house 22 = .ok (.ifCond .eq 7, 3) := by decide +kernel
theorem dB_house_25 : decode cB_house 25 = .ok (.iconst 1, 1) := by decide +kernel
theorem dB_house_26 : decode cB_house 26 = .ok (.goto 4, 3) := by decide +kernel
theorem dB_house_29 : decode cB_house 29 = .ok (.iconst 0, 1) := by decide +kernel
theorem dB_house_30 : decode cB_house 30 = .ok (.iconst 1, 1) := by decide +kernel
theorem dB_house_31 : decode cB_house 31 = .ok (.aload_n 0, 1) := by decide +kernel
theorem dB_house_32 : decode cB_house 32 = .ok (.getfield 99, 3) := by decide +kernel
theorem dB_house_35 : decode cB_house 35 = .ok (.bipush 8, 2) := by decide +kernel
theorem dB_house_37 : decode cB_house 37 = .ok (.if_icmp .ge 7, 3) := by decide +kernel
theorem dB_house_40 : decode cB_house 40 = .ok (.iconst 1, 1) := by decide +kernel
theorem dB_house_41 : decode cB_house 41 = .ok (.goto 4, 3) := by decide +kernel
theorem dB_house_44 : decode cB_house 44 = .ok (.iconst 0, 1) := by decide +kernel
theorem dB_house_45 : decode cB_house 45 = .ok (.invokevirtual 106, 3) := by decide +kernel
theorem dB_house_48 : decode cB_house 48 = .ok (.ifCond .ne 5, 3) := by decide +kernel
theorem dB_house_51 : decode cB_house 51 = .ok (.iconst 0, 1) := by decide +kernel
theorem dB_house_52 : decode cB_house 52 = .ok (.ireturn, 1) := by decide +kernel
theorem dB_house_53 : decode cB_house 53 = .ok (.aload_n 0, 1) := by decide +kernel
theorem dB_house_54 : decode cB_house 54 = .ok (.getfield 7, 3) := by decide +kernel
theorem dB_house_57 : decode cB_house 57 = .ok (.aload_n 0, 1) := by decide +kernel
theorem dB_house_58 : decode cB_house 58 = .ok (.getfield 99, 3) := by decide +kernel
theorem dB_house_61 : decode cB_house 61 = .ok (.iload_n 1, 1) := by decide +kernel
theorem dB_house_62 : decode cB_house 62 = .ok (.iastore, 1) := by decide +kernel
theorem dB_house_63 : decode cB_house 63 = .ok (.aload_n 0, 1) := by decide +kernel
theorem dB_house_64 : decode cB_house 64 = .ok (.getfield 13, 3) := by decide +kernel
theorem dB_house_67 : decode cB_house 67 = .ok (.aload_n 0, 1) := by decide +kernel
theorem dB_house_68 : decode cB_house 68 = .ok (.getfield 99, 3) := by decide +kernel
theorem dB_house_71 : decode cB_house 71 = .ok (.iload_n 2, 1) := by decide +kernel
theorem dB_house_72 : decode cB_house 72 = .ok (.iastore, 1) := by decide +kernel
theorem dB_house_73 : decode cB_house 73 = .ok (.aload_n 0, 1) := by decide +kernel
theorem dB_house_74 : decode cB_house 74 = .ok (.dup, 1) := by decide +kernel
theorem dB_house_75 : decode cB_house 75 = .ok (.getfield 99, 3) := by decide +kernel
theorem dB_house_78 : decode cB_house 78 = .ok (.iconst 1, 1) := by decide +kernel
theorem dB_house_79 : decode cB_house 79 = .ok (.iadd, 1) := by decide +kernel
theorem dB_house_80 : decode cB_house 80 = .ok (.putfield 99, 3) := by decide +kernel
theorem dB_house_83 : decode cB_house 83 = .ok (.aload_n 0, 1) := by decide +kernel
theorem dB_house_84 : decode cB_house 84 = .ok (.getfield 99, 3) := by decide +kernel
theorem dB_house_87 : decode cB_house 87 = .ok (.iconst 1, 1) := by decide +kernel
theorem dB_house_88 : decode cB_house 88 = .ok (.isub, 1) := by decide +kernel
theorem dB_house_89 : decode cB_house 89 = .ok (.ireturn, 1) := by decide +kernel
theorem dB_agree_0 : decode cB_agree 0 = .ok (.aload_n 0, 1) := by decide +kernel
theorem dB_agree_1 : decode cB_agree 1 = .ok (.iload_n 1, 1) := by decide +kernel
theorem dB_agree_2 : decode cB_agree 2 = .ok (.invokevirtual 110, 3) := by decide +kernel
theorem dB_agree_5 : decode cB_agree 5 = .ok (.ifCond .eq 17, 3) := by decide +kernel
theorem dB_agree_8 : decode cB_agree 8 = .ok (.iload_n 2, 1) := by decide +kernel
theorem dB_agree_9 : decode cB_agree 9 = .ok (.iconst 0, 1) := by decide +kernel
theorem dB_agree_10 : decode cB_agree 10 = .ok (.bipush 9, 2) := by decide +kernel
theorem dB_agree_12 : decode cB_agree 12 = .ok (.invokestatic 102, 3) := by decide +kernel
theorem dB_agree_15 : decode cB_agree 15 = .ok (.ifCond .eq 7, 3) := by decide +kernel
theorem dB_agree_18 : decode cB_agree 18 = .ok (.iconst 1, 1) := by decide +kernel
theorem dB_agree_19 : decode cB_agree 19 = .ok (.goto 4, 3) := by decide +kernel
theorem dB_agree_22 : decode cB_agree 22 = .ok (.iconst 0, 1) := by decide +kernel
theorem dB_agree_23 : decode cB_agree 23 = .ok (.istore 7, 2) := by decide +kernel
theorem dB_agree_25 : decode cB_agree 25 = .ok (.iload_n 3, 1) := by decide +kernel
theorem dB_agree_26 : decode cB_agree 26 = .ok (.iconst 0, 1) := by decide +kernel
theorem dB_agree_27 : decode cB_agree 27 = .ok (.ldc 114, 2) := by decide +kernel
theorem dB_agree_29 : decode cB_agree 29 = .ok (.invokestatic 102, 3) := by decide +kernel
theorem dB_agree_32 : decode cB_agree 32 = .ok (.ifCond .eq 68, 3) := by decide +kernel
theorem dB_agree_35 : decode cB_agree 35 = .ok (.iload 4, 2) := by decide +kernel
theorem dB_agree_37 : decode cB_agree 37 = .ok (.iconst 0, 1) := by decide +kernel
theorem dB_agree_38 : decode cB_agree 38 = .ok (.ldc 114, 2) := by decide +kernel
theorem dB_agree_40 : decode cB_agree 40 = .ok (.invokestatic 102, 3) := by decide +kernel
theorem dB_agree_43 : decode cB_agree 43 = .ok (.ifCond .eq 57, 3) := by decide +kernel
theorem dB_agree_46 : decode cB_agree 46 = .ok (.iload_n 3, 1) := by decide +kernel
theorem dB_agree_47 : decode cB_agree 47 = .ok (.iload 4, 2) := by decide +kernel
theorem dB_agree_49 : decode cB_agree 49 = .ok (.if_icmp .ge 51, 3) := by decide +kernel
theorem dB_agree_52 : decode cB_agree 52 = .ok (.iload 5, 2) := by decide +kernel
theorem dB_agree_54 : decode cB_agree 54 = .ok (.ifCond .lt 46, 3) := by decide +kernel
theorem dB_agree_57 : decode cB_agree 57 = .ok (.iload 5, 2) := by decide +kernel
theorem dB_agree_59 : decode cB_agree 59 = .ok (.bipush 100, 2) := by decide +kernel
theorem dB_agree_61 : decode cB_agree 61 = .ok (.idiv, 1) := by decide +kernel
theorem dB_agree_62 : decode cB_agree 62 = .ok (.iconst 0, 1) := by decide +kernel
theorem dB_agree_63 : decode cB_agree 63 = .ok (.bipush 23, 2) := by decide +kernel
theorem dB_agree_65 : decode cB_agree 65 = .ok (.invokestatic 102, 3) := by decide +kernel
theorem dB_agree_68 : decode cB_agree 68 = .ok (.ifCond .eq 32, 3) := by decide +kernel
theorem dB_agree_71 : decode cB_agree 71 = .ok (.iload 5, 2) := by decide +kernel
theorem dB_agree_73 : decode cB_agree 73 = .ok (.bipush 100, 2) := by decide +kernel
theorem dB_agree_75 : decode cB_agree 75 = .ok (.irem, 1) := by decide +kernel
theorem dB_agree_76 : decode cB_agree 76 = .ok (.iconst 0, 1) := by decide +kernel
theorem dB_agree_77 : decode cB_agree 77 = .ok (.bipush 23, 2) := by decide +kernel
theorem dB_agree_79 : decode cB_agree 79 = .ok (.invokestatic 102, 3) := by decide +kernel
theorem dB_agree_82 : decode cB_agree 82 = .ok (.ifCond .eq 18, 3) := by decide +kernel
theorem dB_agree_85 : decode cB_agree 85 = .ok (.iload 6, 2) := by decide +kernel
theorem dB_agree_87 : decode cB_agree 87 = .ok (.iconst 1, 1) := by decide +kernel
theorem dB_agree_88 : decode cB_agree 88 = .ok (.bipush 20, 2) := by decide +kernel
theorem dB_agree_90 : decode cB_agree 90 = .ok (.invokestatic 102, 3) := by decide +kernel
theorem dB_agree_93 : decode cB_agree 93 = .ok (.ifCond .eq 7, 3) := by decide +kernel
theorem dB_agree_96 : decode cB_agree 96 = .ok (.iconst 1, 1) := by decide +kernel
theorem dB_agree_97 : decode cB_agree 97 = .ok (.goto 4, 3) := by decide +kernel
theorem dB_agree_100 : decode cB_agree 100 = .ok (.iconst 0, 1) := by decide +kernel
theorem dB_agree_101 : decode cB_agree 101 = .ok (.istore 8, 2) := by decide +kernel
theorem dB_agree_103 : decode cB_agree 103 = .ok (.iconst 1, 1) := by decide +kernel
theorem dB_agree_104 : decode cB_agree 104 = .ok (.istore 9, 2) := by decide +kernel
theorem dB_agree_106 : decode cB_agree 106 = .ok (.iconst 0, 1) := by decide +kernel
theorem dB_agree_107 : decode cB_agree 107 = .ok (.istore 10, 2) := by decide +kernel
theorem dB_agree_109 : decode cB_agree 109 = .ok (.iload 10, 2) := by decide +kernel
theorem dB_agree_111 : decode cB_agree 111 = .ok (.aload_n 0, 1) := by decide +kernel
theorem dB_agree_112 : decode cB_agree 112 = .ok (.getfield 115, 3) := by decide +kernel
theorem dB_agree_115 : decode cB_agree 115 = .ok (.if_icmp .ge 57, 3) := by decide +kernel
theorem dB_agree_118 : decode cB_agree 118 = .ok (.aload_n 0, 1) := by decide +kernel
theorem dB_agree_119 : decode cB_agree 119 = .ok (.getfield 20, 3) := by decide +kernel
theorem dB_agree_122 : decode cB_agree 122 = .ok (.iload 10, 2) := by decide +kernel
theorem dB_agree_124 : decode cB_agree 124 = .ok (.iaload, 1) := by decide +kernel
theorem dB_agree_125 : decode cB_agree 125 = .ok (.iload_n 1, 1) := by decide +kernel
theorem dB_agree_126 : decode cB_agree 126 = .ok (.if_icmp .ne 40, 3) := by decide +kernel
theorem dB_agree_129 : decode cB_agree 129 = .ok (.aload_n 0, 1) := by decide +kernel
theorem dB_agree_130 : decode cB_agree 130 = .ok (.getfield 23, 3) := by decide +kernel
theorem dB_agree_133 : decode cB_agree 133 = .ok (.iload 10, 2) := by decide +kernel
theorem dB_agree_135 : decode cB_agree 135 = .ok (.iaload, 1) := by decide +kernel
theorem dB_agree_136 : decode cB_agree 136 = .ok (.iload_n 2, 1) := by decide +kernel
theorem dB_agree_137 : decode cB_agree 137 = .ok (.if_icmp .ne 29, 3) := by decide +kernel
theorem dB_agree_140 : decode cB_agree 140 = .ok (.iload_n 3, 1) := by decide +kernel
theorem dB_agree_141 : decode cB_agree 141 = .ok (.aload_n 0, 1) := by decide +kernel
theorem dB_agree_142 : decode cB_agree 142 = .ok (.getfield 29, 3) := by decide +kernel
theorem dB_agree_145 : decode cB_agree 145 = .ok (.iload 10, 2) := by decide +kernel
theorem dB_agree_147 : decode cB_agree 147 = .ok (.iaload, 1) := by decide +kernel
theorem dB_agree_148 : decode cB_agree 148 = .ok (.if_icmp .ge 18, 3) := by decide +kernel
theorem dB_agree_151 : decode cB_agree 151 = .ok (.aload_n 0, 1) := by decide +kernel
theorem dB_agree_152 : decode cB_agree 152 = .ok (.getfield 26, 3) := by decide +kernel
theorem dB_agree_155 : decode cB_agree 155 = .ok (.iload 10, 2) := by decide +kernel
theorem dB_agree_157 : decode cB_agree 157 = .ok (.iaload, 1) := by decide +kernel
theorem dB_agree_158 : decode cB_agree 158 = .ok (.iload 4, 2) := by decide +kernel
theorem dB_agree_160 : decode cB_agree 160 = .ok (.if_icmp .ge 6, 3) := by decide +kernel
theorem dB_agree_163 : decode cB_agree 163 = .ok (.iconst 0, 1) := by decide +kernel
theorem dB_agree_164 : decode cB_agree 164 = .ok (.istore 9, 2) := by decide +kernel
theorem dB_agree_166 : decode cB_agree 166 = .ok (.iinc 10 1, 3) := by decide +kernel
theorem dB_agree_169 : decode cB_agree 169 = .ok (.goto (-60), 3) := by decide +kernel
theorem dB_agree_172 : decode cB_agree 172 = .ok (.aload_n 0, 1) := by decide +kernel
theorem dB_agree_173 : decode cB_agree 173 = .ok (.bipush 15, 2) := by decide +kernel
theorem dB_agree_175 : decode cB_agree 175 = .ok (.iload 7, 2) := by decide +kernel
theorem dB_agree_177 : decode cB_agree 177 = .ok (.iload 8, 2) := by decide +kernel
theorem dB_agree_179 : decode cB_agree 179 = .ok (.iload 9, 2) := by decide +kernel
theorem dB_agree_181 : decode cB_agree 181 = .ok (.aload_n 0, 1) := by decide +kernel
theorem dB_agree_182 : decode cB_agree 182 = .ok (.getfield 115, 3) := by decide +kernel
theorem dB_agree_185 : decode cB_agree 185 = .ok (.bipush 30, 2) := by decide +kernel
theorem dB_agree_187 : decode cB_agree 187 = .ok (.if_icmp .ge 7, 3) := by decide +kernel
theorem dB_agree_190 : decode cB_agree 190 = .ok (.iconst 1, 1) := by decide +kernel
theorem dB_agree_191 : decode cB_agree 191 = .ok (.goto 4, 3) := by decide +kernel
theorem dB_agree_194 : decode cB_agree 194 = .ok (.iconst 0, 1) := by decide +kernel
theorem dB_agree_195 : decode cB_agree 195 = .ok (.invokevirtual 106, 3) := by decide +kernel
theorem dB_agree_198 : decode cB_agree 198 = .ok (.ifCond .ne 5, 3) := by decide +kernel
theorem dB_agree_201 : decode cB_agree 201 = .ok (.iconst 0, 1) := by decide +kernel
theorem dB_agree_202 : decode cB_agree 202 = .ok (.ireturn, 1) := by decide +kernel
theorem dB_agree_203 : decode cB_agree 203 = .ok (.aload_n 0, 1) := by decide +kernel
theorem dB_agree_204 : decode cB_agree 204 = .ok (.getfield 20, 3) := by decide +kernel
theorem dB_agree_207 : decode cB_agree 207 = .ok (.aload_n 0, 1) := by decide +kernel
theorem dB_agree_208 : decode cB_agree 208 = .ok (.getfield 115, 3) := by decide +kernel
theorem dB_agree_211 : decode cB_agree 211 = .ok (.iload_n 1, 1) := by decide +kernel
theorem dB_agree_212 : decode cB_agree 212 = .ok (.iastore, 1) := by decide +kernel
theorem dB_agree_213 : decode cB_agree 213 = .ok (.aload_n 0, 1) := by decide +kernel
theorem dB_agree_214 : decode cB_agree 214 = .ok (.getfield 23, 3) := by decide +kernel
theorem dB_agree_217 : decode cB_agree 217 = .ok (.aload_n 0, 1) := by decide +kernel
theorem dB_agree_218 : decode cB_agree 218 = .ok (.getfield 115, 3) := by decide +kernel
theorem dB_agree_221 : decode cB_agree 221 = .ok (.iload_n 2, 1) := by decide +kernel
theorem dB_agree_222 : decode cB_agree 222 = .ok (.iastore, 1) := by decide +kernel
theorem dB_agree_223 : decode cB_agree 223 = .ok (.aload_n 0, 1) := by decide +kernel
theorem dB_agree_224 : decode cB_agree 224 = .ok (.getfield 26, 3) := by decide +kernel
theorem dB_agree_227 : decode cB_agree 227 = .ok (.aload_n 0, 1) := by decide +kernel
theorem dB_agree_228 : decode cB_agree 228 = .ok (.getfield 115, 3) := by decide +kernel
theorem dB_agree_231 : decode cB_agree 231 = .ok (.iload_n 3, 1) := by decide +kernel
theorem dB_agree_232 : decode cB_agree 232 = .ok (.iastore, 1) := by decide +kernel
theorem dB_agree_233 : decode cB_agree 233 = .ok (.aload_n 0, 1) := by decide +kernel
theorem dB_agree_234 : decode cB_agree 234 = .ok (.getfield 29, 3) := by decide +kernel
theorem dB_agree_237 : decode cB_agree 237 = .ok (.aload_n 0, 1) := by decide +kernel
theorem dB_agree_238 : decode cB_agree 238 = .ok (.getfield 115, 3) := by decide +kernel
theorem dB_agree_241 : decode cB_agree 241 = .ok (.iload 4, 2) := by decide +kernel
theorem dB_agree_243 : decode cB_agree 243 = .ok (.iastore, 1) := by decide +kernel
theorem dB_agree_244 : decode cB_agree 244 = .ok (.aload_n 0, 1) := by decide +kernel
theorem dB_agree_245 : decode cB_agree 245 = .ok (.getfield 32, 3) := by decide +kernel
