theorem dA_cost_25 : decode cA_cost 25 = .ok (.iload_n 3, 1) := by decide +kernel
theorem dA_cost_26 : decode cA_cost 26 = .ok (.aload_n 0, 1) := by decide +kernel
theorem dA_cost_27 : decode cA_cost 27 = .ok (.getfield 33, 3) := by decide +kernel
theorem dA_cost_30 : decode cA_cost 30 = .ok (.getfield 234, 3) := by decide +kernel
theorem dA_cost_33 : decode cA_cost 33 = .ok (.if_icmp .ge 30, 3) := by decide +kernel
theorem dA_cost_36 : decode cA_cost 36 = .ok (.aload_n 0, 1) := by decide +kernel
theorem dA_cost_37 : decode cA_cost 37 = .ok (.getfield 33, 3) := by decide +kernel
theorem dA_cost_40 : decode cA_cost 40 = .ok (.getfield 219, 3) := by decide +kernel
theorem dA_cost_43 : decode cA_cost 43 = .ok (.iload_n 3, 1) := by decide +kernel
theorem dA_cost_44 : decode cA_cost 44 = .ok (.iaload, 1) := by decide +kernel
theorem dA_cost_45 : decode cA_cost 45 = .ok (.iload_n 1, 1) := by decide +kernel
theorem dA_cost_46 : decode cA_cost 46 = .ok (.if_icmp .ne 11, 3) := by decide +kernel
theorem dA_cost_49 : decode cA_cost 49 = .ok (.iload_n 2, 1) := by decide +kernel
theorem dA_cost_50 : decode cA_cost 50 = .ok (.aload_n 0, 1) := by decide +kernel
theorem dA_cost_51 : decode cA_cost 51 = .ok (.iload_n 3, 1) := by decide +kernel
theorem dA_cost_52 : decode cA_cost 52 = .ok (.invokevirtual 231, 3) := by decide +kernel
theorem dA_cost_55 : decode cA_cost 55 = .ok (.iadd, 1) := by decide +kernel
theorem dA_cost_56 : decode cA_cost 56 = .ok (.istore_n 2, 1) := by decide +kernel
theorem dA_cost_57 : decode cA_cost 57 = .ok (.iinc 3 1, 3) := by decide +kernel
theorem dA_cost_60 : decode cA_cost 60 = .ok (.goto (-35), 3) := by decide +kernel
theorem dA_cost_63 : decode cA_cost 63 = .ok (.iload_n 2, 1) := by decide +kernel
theorem dA_cost_64 : decode cA_cost 64 = .ok (.ireturn, 1) := by decide +kernel
theorem dA_named_0 : decode cA_named 0 = .ok (.aload_n 0, 1) := by decide +kernel
theorem dA_named_1 : decode cA_named 1 = .ok (.getfield 33, 3) := by decide +kernel
theorem dA_named_4 : decode cA_named 4 = .ok (.iload_n 1, 1) := by decide +kernel
theorem dA_named_5 : decode cA_named 5 = .ok (.invokevirtual 237, 3) := by decide +kernel
theorem dA_named_8 : decode cA_named 8 = .ok (.ireturn, 1) := by decide +kernel
theorem dA_hand_0 : decode cA_hand 0 = .ok (.iload_n 1, 1) := by decide +kernel
theorem dA_hand_1 : decode cA_hand 1 = .ok (.invokestatic 240, 3) := by decide +kernel
theorem dA_hand_4 : decode cA_hand 4 = .ok (.ifCond .eq 14, 3) := by decide +kernel
theorem dA_hand_7 : decode cA_hand 7 = .ok (.aload_n 0, 1) := by decide +kernel
theorem dA_hand_8 : decode cA_hand 8 = .ok (.getfield 10, 3) := by decide +kernel
theorem dA_hand_11 : decode cA_hand 11 = .ok (.iload_n 2, 1) := by decide +kernel
theorem dA_hand_12 : decode cA_hand 12 = .ok (.invokevirtual 78, 3) := by decide +kernel
theorem dA_hand_15 : decode cA_hand 15 = .ok (.ifCond .ne 13, 3) := by decide +kernel
theorem dA_hand_18 : decode cA_hand 18 = .ok (.new 82, 3) := by decide +kernel
theorem dA_hand_21 : decode cA_hand 21 = .ok (.dup, 1) := by decide +kernel
theorem dA_hand_22 : decode cA_hand 22 = .ok (.ldc 243, 2) := by decide +kernel
theorem dA_hand_24 : decode cA_hand 24 = .ok (.invokespecial 86, 3) := by decide +kernel
theorem dA_hand_27 : decode cA_hand 27 = .ok (.athrow, 1) := by decide +kernel
theorem dA_hand_28 : decode cA_hand 28 = .ok (.aload_n 0, 1) := by decide +kernel
theorem dA_hand_29 : decode cA_hand 29 = .ok (.getfield 44, 3) := by decide +kernel
theorem dA_hand_32 : decode cA_hand 32 = .ok (.iload_n 1, 1) := by decide +kernel
theorem dA_hand_33 : decode cA_hand 33 = .ok (.iaload, 1) := by decide +kernel
theorem dA_hand_34 : decode cA_hand 34 = .ok (.iconst (-1), 1) := by decide +kernel
theorem dA_hand_35 : decode cA_hand 35 = .ok (.if_icmp .ne 15, 3) := by decide +kernel
theorem dA_hand_38 : decode cA_hand 38 = .ok (.aload_n 0, 1) := by decide +kernel
theorem dA_hand_39 : decode cA_hand 39 = .ok (.getfield 10, 3) := by decide +kernel
theorem dA_hand_42 : decode cA_hand 42 = .ok (.getfield 133, 3) := by decide +kernel
theorem dA_hand_45 : decode cA_hand 45 = .ok (.iload_n 2, 1) := by decide +kernel
theorem dA_hand_46 : decode cA_hand 46 = .ok (.baload, 1) := by decide +kernel
theorem dA_hand_47 : decode cA_hand 47 = .ok (.ifCond .eq 13, 3) := by decide +kernel
theorem dA_hand_50 : decode cA_hand 50 = .ok (.new 100, 3) := by decide +kernel
theorem dA_hand_53 : decode cA_hand 53 = .ok (.dup, 1) := by decide +kernel
theorem dA_hand_54 : decode cA_hand 54 = .ok (.ldc 245, 2) := by decide +kernel
theorem dA_hand_56 : decode cA_hand 56 = .ok (.invokespecial 104, 3) := by decide +kernel
theorem dA_hand_59 : decode cA_hand 59 = .ok (.athrow, 1) := by decide +kernel
theorem dA_hand_60 : decode cA_hand 60 = .ok (.aload_n 0, 1) := by decide +kernel
theorem dA_hand_61 : decode cA_hand 61 = .ok (.getfield 44, 3) := by decide +kernel
theorem dA_hand_64 : decode cA_hand 64 = .ok (.iload_n 1, 1) := by decide +kernel
theorem dA_hand_65 : decode cA_hand 65 = .ok (.iload_n 2, 1) := by decide +kernel
theorem dA_hand_66 : decode cA_hand 66 = .ok (.iastore, 1) := by decide +kernel
theorem dA_hand_67 : decode cA_hand 67 = .ok (.return_, 1) := by decide +kernel
theorem dA_handed_0 : decode cA_handed 0 = .ok (.iload_n 1, 1) := by decide +kernel
theorem dA_handed_1 : decode cA_handed 1 = .ok (.invokestatic 240, 3) := by decide +kernel
theorem dA_handed_4 : decode cA_handed 4 = .ok (.ifCond .ne 13, 3) := by decide +kernel
theorem dA_handed_7 : decode cA_handed 7 = .ok (.new 82, 3) := by decide +kernel
theorem dA_handed_10 : decode cA_handed 10 = .ok (.dup, 1) := by decide +kernel
theorem dA_handed_11 : decode cA_handed 11 = .ok (.ldc 247, 2) := by decide +kernel
theorem dA_handed_13 : decode cA_handed 13 = .ok (.invokespecial 86, 3) := by decide +kernel
theorem dA_handed_16 : decode cA_handed 16 = .ok (.athrow, 1) := by decide +kernel
theorem dA_handed_17 : decode cA_handed 17 = .ok (.aload_n 0, 1) := by decide +kernel
theorem dA_handed_18 : decode cA_handed 18 = .ok (.getfield 44, 3) := by decide +kernel
theorem dA_handed_21 : decode cA_handed 21 = .ok (.iload_n 1, 1) := by decide +kernel
theorem dA_handed_22 : decode cA_handed 22 = .ok (.iaload, 1) := by decide +kernel
theorem dA_handed_23 : decode cA_handed 23 = .ok (.ireturn, 1) := by decide +kernel
theorem dA_count_0 : decode cA_count 0 = .ok (.iload_n 1, 1) := by decide +kernel
theorem dA_count_1 : decode cA_count 1 = .ok (.tableswitch 66 0 4 #[35, 40, 48, 56, 61], 35) := by decide +kernel
theorem dA_count_36 : decode cA_count 36 = .ok (.aload_n 0, 1) := by decide +kernel
theorem dA_count_37 : decode cA_count 37 = .ok (.getfield 168, 3) := by decide +kernel
theorem dA_count_40 : decode cA_count 40 = .ok (.ireturn, 1) := by decide +kernel
theorem dA_count_41 : decode cA_count 41 = .ok (.aload_n 0, 1) := by decide +kernel
theorem dA_count_42 : decode cA_count 42 = .ok (.getfield 33, 3) := by decide +kernel
theorem dA_count_45 : decode cA_count 45 = .ok (.invokevirtual 249, 3) := by decide +kernel
theorem dA_count_48 : decode cA_count 48 = .ok (.ireturn, 1) := by decide +kernel
theorem dA_count_49 : decode cA_count 49 = .ok (.aload_n 0, 1) := by decide +kernel
theorem dA_count_50 : decode cA_count 50 = .ok (.getfield 26, 3) := by decide +kernel
theorem dA_count_53 : decode cA_count 53 = .ok (.invokevirtual 252, 3) := by decide +kernel
theorem dA_count_56 : decode cA_count 56 = .ok (.ireturn, 1) := by decide +kernel
theorem dA_count_57 : decode cA_count 57 = .ok (.aload_n 0, 1) := by decide +kernel
theorem dA_count_58 : decode cA_count 58 = .ok (.getfield 137, 3) := by decide +kernel
theorem dA_count_61 : decode cA_count 61 = .ok (.ireturn, 1) := by decide +kernel
theorem dA_count_62 : decode cA_count 62 = .ok (.aload_n 0, 1) := by decide +kernel
theorem dA_count_63 : decode cA_count 63 = .ok (.getfield 144, 3) := by decide +kernel
theorem dA_count_66 : decode cA_count 66 = .ok (.ireturn, 1) := by decide +kernel
theorem dA_count_67 : decode cA_count 67 = .ok (.new 82, 3) := by decide +kernel
theorem dA_count_70 : decode cA_count 70 = .ok (.dup, 1) := by decide +kernel
theorem dA_count_71 : decode cA_count 71 = .ok (.ldc 255, 2) := by decide +kernel
theorem dA_count_73 : decode cA_count 73 = .ok (.invokespecial 86, 3) := by decide +kernel
theorem dA_count_76 : decode cA_count 76 = .ok (.athrow, 1) := by decide +kernel
theorem dA_isWithin_0 : decode cA_isWithin 0 = .ok (.iload_n 0, 1) := by decide +kernel
theorem dA_isWithin_1 : decode cA_isWithin 1 = .ok (.iload_n 1, 1) := by decide +kernel
theorem dA_isWithin_2 : decode cA_isWithin 2 = .ok (.if_icmp .lt 12, 3) := by decide +kernel
theorem dA_isWithin_5 : decode cA_isWithin 5 = .ok (.iload_n 0, 1) := by decide +kernel
theorem dA_isWithin_6 : decode cA_isWithin 6 = .ok (.iload_n 2, 1) := by decide +kernel
theorem dA_isWithin_7 : decode cA_isWithin 7 = .ok (.if_icmp .gt 7, 3) := by decide +kernel
theorem dA_isWithin_10 : decode cA_isWithin 10 = .ok (.iconst 1, 1) := by decide +kernel
theorem dA_isWithin_11 : decode cA_isWithin 11 = .ok (.goto 4, 3) := by decide +kernel
theorem dA_isWithin_14 : decode cA_isWithin 14 = .ok (.iconst 0, 1) := by decide +kernel
theorem dA_isWithin_15 : decode cA_isWithin 15 = .ok (.ireturn, 1) := by decide +kernel
theorem dA_isSpan_0 : decode cA_isSpan 0 = .ok (.iload_n 0, 1) := by decide +kernel
theorem dA_isSpan_1 : decode cA_isSpan 1 = .ok (.ifCond .lt 18, 3) := by decide +kernel
theorem dA_isSpan_4 : decode cA_isSpan 4 = .ok (.iload_n 0, 1) := by decide +kernel
theorem dA_isSpan_5 : decode cA_isSpan 5 = .ok (.iload_n 1, 1) := by decide +kernel
theorem dA_isSpan_6 : decode cA_isSpan 6 = .ok (.if_icmp .ge 13, 3) := by decide +kernel
theorem dA_isSpan_9 : decode cA_isSpan 9 = .ok (.iload_n 1, 1) := by decide +kernel
theorem dA_isSpan_10 : decode cA_isSpan 10 = .ok (.ldc 171, 2) := by decide +kernel
theorem dA_isSpan_12 : decode cA_isSpan 12 = .ok (.if_icmp .gt 7, 3) := by decide +kernel
theorem dA_isSpan_15 : decode cA_isSpan 15 = .ok (.iconst 1, 1) := by decide +kernel
theorem dA_isSpan_16 : decode cA_isSpan 16 = .ok (.goto 4, 3) := by decide +kernel
theorem dA_isSpan_19 : decode cA_isSpan 19 = .ok (.iconst 0, 1) := by decide +kernel
theorem dA_isSpan_20 : decode cA_isSpan 20 = .ok (.ireturn, 1) := by decide +kernel
theorem dA_isHours_0 : decode cA_isHours 0 = .ok (.iload_n 0, 1) := by decide +kernel
theorem dA_isHours_1 : decode cA_isHours 1 = .ok (.ifCond .lt 25, 3) := by decide +kernel
theorem dA_isHours_4 : decode cA_isHours 4 = .ok (.iload_n 0, 1) := by decide +kernel
theorem dA_isHours_5 : decode cA_isHours 5 = .ok (.bipush 100, 2) := by decide +kernel
theorem dA_isHours_7 : decode cA_isHours 7 = .ok (.idiv, 1) := by decide +kernel
theorem dA_isHours_8 : decode cA_isHours 8 = .ok (.bipush 24, 2) := by decide +kernel
theorem dA_isHours_10 : decode cA_isHours 10 = .ok (.if_icmp .ge 16, 3) := by decide +kernel
theorem dA_isHours_13 : decode cA_isHours 13 = .ok (.iload_n 0, 1) := by decide +kernel
theorem dA_isHours_14 : decode cA_isHours 14 = .ok (.bipush 100, 2) := by decide +kernel
theorem dA_isHours_16 : decode cA_isHours 16 = .ok (.irem, 1) := by decide +kernel
theorem dA_isHours_17 : decode cA_isHours 17 = .ok (.bipush 24, 2) := by decide +kernel
theorem dA_isHours_19 : decode cA_isHours 19 = .ok (.if_icmp .ge 7, 3) := by decide +kernel
theorem dA_isHours_22 : decode cA_isHours 22 = .ok (.iconst 1, 1) := by decide +kernel
theorem dA_isHours_23 : decode cA_isHours 23 = .ok (.goto 4, 3) := by decide +kernel
theorem dA_isHours_26 : decode cA_isHours 26 = .ok (.iconst 0, 1) := by decide +kernel
theorem dA_isHours_27 : decode cA_isHours 27 = .ok (.ireturn, 1) := by decide +kernel
theorem dA_isNumber_0 : decode cA_isNumber 0 = .ok (.iload_n 0, 1) := by decide +kernel
theorem dA_isNumber_1 : decode cA_isNumber 1 = .ok (.iconst 0, 1) := by decide +kernel
theorem dA_isNumber_2 : decode cA_isNumber 2 = .ok (.sipush 999, 3) := by decide +kernel
theorem dA_isNumber_5 : decode cA_isNumber 5 = .ok (.invokestatic 54, 3) := by decide +kernel
theorem dA_isNumber_8 : decode cA_isNumber 8 = .ok (.ireturn, 1) := by decide +kernel
theorem dA_isCall_0 : decode cA_isCall 0 = .ok (.iload_n 0, 1) := by decide +kernel
theorem dA_isCall_1 : decode cA_isCall 1 = .ok (.iconst 0, 1) := by decide +kernel
theorem dA_isCall_2 : decode cA_isCall 2 = .ok (.bipush 99, 2) := by decide +kernel
theorem dA_isCall_4 : decode cA_isCall 4 = .ok (.invokestatic 54, 3) := by decide +kernel
theorem dA_isCall_7 : decode cA_isCall 7 = .ok (.ireturn, 1) := by decide +kernel
theorem dA_sendOn_0 : decode cA_sendOn 0 = .ok (.aload_n 0, 1) := by decide +kernel
theorem dA_sendOn_1 : decode cA_sendOn 1 = .ok (.iload_n 1, 1) := by decide +kernel
theorem dA_sendOn_2 : decode cA_sendOn 2 = .ok (.invokevirtual 257, 3) := by decide +kernel
theorem dA_sendOn_5 : decode cA_sendOn 5 = .ok (.istore_n 2, 1) := by decide +kernel
theorem dA_sendOn_6 : decode cA_sendOn 6 = .ok (.iload_n 2, 1) := by decide +kernel
theorem dA_sendOn_7 : decode cA_sendOn 7 = .ok (.iconst (-1), 1) := by decide +kernel
theorem dA_sendOn_8 : decode cA_sendOn 8 = .ok (.if_icmp .ne 15, 3) := by decide +kernel
theorem dA_sendOn_11 : decode cA_sendOn 11 = .ok (.aload_n 0, 1) := by decide +kernel
theorem dA_sendOn_12 : decode cA_sendOn 12 = .ok (.getfield 26, 3) := by decide +kernel
theorem dA_sendOn_15 : decode cA_sendOn 15 = .ok (.iload_n 1, 1) := by decide +kernel
theorem dA_sendOn_16 : decode cA_sendOn 16 = .ok (.iconst 2, 1) := by decide +kernel
theorem dA_sendOn_17 : decode cA_sendOn 17 = .ok (.invokevirtual 260, 3) := by decide +kernel
theorem dA_sendOn_20 : decode cA_sendOn 20 = .ok (.goto 25, 3) := by decide +kernel
theorem dA_sendOn_23 : decode cA_sendOn 23 = .ok (.aload_n 0, 1) := by decide +kernel
theorem dA_sendOn_24 : decode cA_sendOn 24 = .ok (.getfield 26, 3) := by decide +kernel
theorem dA_sendOn_27 : decode cA_sendOn 27 = .ok (.iload_n 1, 1) := by decide +kernel
theorem dA_sendOn_28 : decode cA_sendOn 28 = .ok (.iload_n 2, 1) := by decide +kernel
theorem dA_sendOn_29 : decode cA_sendOn 29 = .ok (.aload_n 0, 1) := by decide +kernel
theorem dA_sendOn_30 : decode cA_sendOn 30 = .ok (.getfield 168, 3) := by decide +kernel
theorem dA_sendOn_33 : decode cA_sendOn 33 = .ok (.aload_n 0, 1) := by decide +kernel
theorem dA_sendOn_34 : decode cA_sendOn 34 = .ok (.getfield 10, 3) := by decide +kernel
theorem dA_sendOn_37 : decode cA_sendOn 37 = .ok (.getfield 133, 3) := by decide +kernel
theorem dA_sendOn_40 : decode cA_sendOn 40 = .ok (.iload_n 2, 1) := by decide +kernel
theorem dA_sendOn_41 : decode cA_sendOn 41 = .ok (.baload, 1) := by decide +kernel
theorem dA_sendOn_42 : decode cA_sendOn 42 = .ok (.invokevirtual 264, 3) := by decide +kernel
theorem dA_sendOn_45 : decode cA_sendOn 45 = .ok (.return_, 1) := by decide +kernel
theorem dA_nextHouse_0 : decode cA_nextHouse 0 = .ok (.iconst (-1), 1) := by decide +kernel
theorem dA_nextHouse_1 : decode cA_nextHouse 1 = .ok (.istore_n 2, 1) := by decide +kernel
theorem dA_nextHouse_2 : decode cA_nextHouse 2 = .ok (.iconst 0, 1) := by decide +kernel
theorem dA_nextHouse_3 : decode cA_nextHouse 3 = .ok (.istore_n 3, 1) := by decide +kernel
theorem dA_nextHouse_4 : decode cA_nextHouse 4 = .ok (.iload_n 3, 1) := by decide +kernel
theorem dA_nextHouse_5 : decode cA_nextHouse 5 = .ok (.aload_n 0, 1) := by decide +kernel
theorem dA_nextHouse_6 : decode cA_nextHouse 6 = .ok (.getfield 10, 3) := by decide +kernel
theorem dA_nextHouse_9 : decode cA_nextHouse 9 = .ok (.getfield 268, 3) := by decide +kernel
theorem dA_nextHouse_12 : decode cA_nextHouse 12 = .ok (.if_icmp .ge 86, 3) := by decide +kernel
theorem dA_nextHouse_15 : decode cA_nextHouse 15 = .ok (.aload_n 0, 1) := by decide +kernel
theorem dA_nextHouse_16 : decode cA_nextHouse 16 = .ok (.getfield 26, 3) := by decide +kernel
theorem dA_nextHouse_19 : decode cA_nextHouse 19 = .ok (.iload_n 1, 1) := by decide +kernel
theorem dA_nextHouse_20 : decode cA_nextHouse 20 = .ok (.iload_n 3, 1) := by decide +kernel
theorem dA_nextHouse_21 : decode cA_nextHouse 21 = .ok (.invokevirtual 269, 3) := by decide +kernel
theorem dA_nextHouse_24 : decode cA_nextHouse 24 = .ok (.ifCond .ne 32, 3) := by decide +kernel
theorem dA_nextHouse_27 : decode cA_nextHouse 27 = .ok (.aload_n 0, 1) := by decide +kernel
theorem dA_nextHouse_28 : decode cA_nextHouse 28 = .ok (.getfield 19, 3) := by decide +kernel
theorem dA_nextHouse_31 : decode cA_nextHouse 31 = .ok (.iload_n 3, 1) := by decide +kernel
theorem dA_nextHouse_32 : decode cA_nextHouse 32 = .ok (.aload_n 0, 1) := by decide +kernel
theorem dA_nextHouse_33 : decode cA_nextHouse 33 = .ok (.getfield 26, 3) := by decide +kernel
theorem dA_nextHouse_36 : decode cA_nextHouse 36 = .ok (.getfield 272, 3) := by decide +kernel
theorem dA_nextHouse_39 : decode cA_nextHouse 39 = .ok (.iload_n 1, 1) := by decide +kernel
theorem dA_nextHouse_40 : decode cA_nextHouse 40 = .ok (.iaload, 1) := by decide +kernel
theorem dA_nextHouse_41 : decode cA_nextHouse 41 = .ok (.aload_n 0, 1) := by decide +kernel
theorem dA_nextHouse_42 : decode cA_nextHouse 42 = .ok (.getfield 168, 3) := by decide +kernel
theorem dA_nextHouse_45 : decode cA_nextHouse 45 = .ok (.invokevirtual 275, 3) := by decide +kernel
theorem dA_nextHouse_48 : decode cA_nextHouse 48 = .ok (.iconst (-1), 1) := by decide +kernel
theorem dA_nextHouse_49 : decode cA_nextHouse 49 = .ok (.if_icmp .eq 7, 3) := by decide +kernel
theorem dA_nextHouse_52 : decode cA_nextHouse 52 = .ok (.iconst 1, 1) := by decide +kernel
theorem dA_nextHouse_53 : decode cA_nextHouse 53 = .ok (.goto 4, 3) := by decide +kernel
theorem dA_nextHouse_56 : decode cA_nextHouse 56 = .ok (.iconst 0, 1) := by decide +kernel
theorem dA_nextHouse_57 : decode cA_nextHouse 57 = .ok (.istore 4, 2) := by decide +kernel
theorem dA_nextHouse_59 : decode cA_nextHouse 59 = .ok (.iload 4, 2) := by decide +kernel
theorem dA_nextHouse_61 : decode cA_nextHouse 61 = .ok (.ifCond .eq 31, 3) := by decide +kernel
theorem dA_nextHouse_64 : decode cA_nextHouse 64 = .ok (.iload_n 2, 1) := by decide +kernel
theorem dA_nextHouse_65 : decode cA_nextHouse 65 = .ok (.iconst (-1), 1) := by decide +kernel
theorem dA_nextHouse_66 : decode cA_nextHouse 66 = .ok (.if_icmp .eq 24, 3) := by decide +kernel
theorem dA_nextHouse_69 : decode cA_nextHouse 69 = .ok (.aload_n 0, 1) := by decide +kernel
theorem dA_nextHouse_70 : decode cA_nextHouse 70 = .ok (.getfield 10, 3) := by decide +kernel
theorem dA_nextHouse_73 : decode cA_nextHouse 73 = .ok (.getfield 278, 3) := by decide +kernel
theorem dA_nextHouse_76 : decode cA_nextHouse 76 = .ok (.iload_n 3, 1) := by decide +kernel
theorem dA_nextHouse_77 : decode cA_nextHouse 77 = .ok (.iaload, 1) := by decide +kernel
theorem dA_nextHouse_78 : decode cA_nextHouse 78 = .ok (.aload_n 0, 1) := by decide +kernel
theorem dA_nextHouse_79 : decode cA_nextHouse 79 = .ok (.getfield 10, 3) := by decide +kernel
theorem dA_nextHouse_82 : decode cA_nextHouse 82 = .ok (.getfield 278, 3) := by decide +kernel
theorem dA_nextHouse_85 : decode cA_nextHouse 85 = .ok (.iload_n 2, 1) := by decide +kernel
theorem dA_nextHouse_86 : decode cA_nextHouse 86 = .ok (.iaload, 1) := by decide +kernel
theorem dA_nextHouse_87 : decode cA_nextHouse 87 = .ok (.if_icmp .le 5, 3) := by decide +kernel
theorem dA_nextHouse_90 : decode cA_nextHouse 90 = .ok (.iload_n 3, 1) := by decide +kernel
theorem dA_nextHouse_91 : decode cA_nextHouse 91 = .ok (.istore_n 2, 1) := by decide +kernel
theorem dA_nextHouse_92 : decode cA_nextHouse 92 = .ok (.iinc 3 1, 3) := by decide +kernel
theorem dA_nextHouse_95 : decode cA_nextHouse 95 = .ok (.goto (-91), 3) := by decide +kernel
theorem dA_nextHouse_98 : decode cA_nextHouse 98 = .ok (.iload_n 2, 1) := by decide +kernel
theorem dA_nextHouse_99 : decode cA_nextHouse 99 = .ok (.ireturn, 1) := by decide +kernel
theorem dA_judge_0 : decode cA_judge 0 = .ok (.aload_n 0, 1) := by decide +kernel
theorem dA_judge_1 : decode cA_judge 1 = .ok (.getfield 26, 3) := by decide +kernel
theorem dA_judge_4 : decode cA_judge 4 = .ok (.iload_n 1, 1) := by decide +kernel
theorem dA_judge_5 : decode cA_judge 5 = .ok (.iload_n 2, 1) := by decide +kernel
theorem dA_judge_6 : decode cA_judge 6 = .ok (.invokevirtual 281, 3) := by decide +kernel
theorem dA_judge_9 : decode cA_judge 9 = .ok (.ifCond .ne 5, 3) := by decide +kernel
theorem dA_judge_12 : decode cA_judge 12 = .ok (.iconst 3, 1) := by decide +kernel
theorem dA_judge_13 : decode cA_judge 13 = .ok (.ireturn, 1) := by decide +kernel
theorem dA_judge_14 : decode cA_judge 14 = .ok (.iload_n 3, 1) := by decide +kernel
theorem dA_judge_15 : decode cA_judge 15 = .ok (.ifCond .le 7, 3) := by decide +kernel
theorem dA_judge_18 : decode cA_judge 18 = .ok (.iconst 1, 1) := by decide +kernel
theorem dA_judge_19 : decode cA_judge 19 = .ok (.goto 4, 3) := by decide +kernel
theorem dA_judge_22 : decode cA_judge 22 = .ok (.iconst 0, 1) := by decide +kernel
theorem dA_judge_23 : decode cA_judge 23 = .ok (.istore 4, 2) := by decide +kernel
theorem dA_judge_25 : decode cA_judge 25 = .ok (.iload 4, 2) := by decide +kernel
theorem dA_judge_27 : decode cA_judge 27 = .ok (.ifCond .eq 17, 3) := by decide +kernel
theorem dA_judge_30 : decode cA_judge 30 = .ok (.iload_n 3, 1) := by decide +kernel
theorem dA_judge_31 : decode cA_judge 31 = .ok (.aload_n 0, 1) := by decide +kernel
theorem dA_judge_32 : decode cA_judge 32 = .ok (.iload_n 1, 1) := by decide +kernel
theorem dA_judge_33 : decode cA_judge 33 = .ok (.iload_n 2, 1) := by decide +kernel
theorem dA_judge_34 : decode cA_judge 34 = .ok (.invokevirtual 284, 3) := by decide +kernel
theorem dA_judge_37 : decode cA_judge 37 = .ok (.if_icmp .le 7, 3) := by decide +kernel
theorem dA_judge_40 : decode cA_judge 40 = .ok (.iconst 4, 1) := by decide +kernel
theorem dA_judge_41 : decode cA_judge 41 = .ok (.goto 4, 3) := by decide +kernel
theorem dA_judge_44 : decode cA_judge 44 = .ok (.iconst 1, 1) := by decide +kernel
theorem dA_judge_45 : decode cA_judge 45 = .ok (.ireturn, 1) := by decide +kernel
theorem dA_mostToTake_0 : decode cA_mostToTake 0 = .ok (.aload_n 0, 1) := by decide +kernel
theorem dA_mostToTake_1 : decode cA_mostToTake 1 = .ok (.getfield 19, 3) := by decide +kernel
theorem dA_mostToTake_4 : decode cA_mostToTake 4 = .ok (.iload_n 2, 1) := by decide +kernel
theorem dA_mostToTake_5 : decode cA_mostToTake 5 = .ok (.aload_n 0, 1) := by decide +kernel
theorem dA_mostToTake_6 : decode cA_mostToTake 6 = .ok (.getfield 26, 3) := by decide +kernel
theorem dA_mostToTake_9 : decode cA_mostToTake 9 = .ok (.getfield 272, 3) := by decide +kernel
theorem dA_mostToTake_12 : decode cA_mostToTake 12 = .ok (.iload_n 1, 1) := by decide +kernel
theorem dA_mostToTake_13 : decode cA_mostToTake 13 = .ok (.iaload, 1) := by decide +kernel
theorem dA_mostToTake_14 : decode cA_mostToTake 14 = .ok (.aload_n 0, 1) := by decide +kernel
theorem dA_mostToTake_15 : decode cA_mostToTake 15 = .ok (.getfield 168, 3) := by decide +kernel
theorem dA_mostToTake_18 : decode cA_mostToTake 18 = .ok (.invokevirtual 275, 3) := by decide +kernel
theorem dA_mostToTake_21 : decode cA_mostToTake 21 = .ok (.istore_n 3, 1) := by decide +kernel
theorem dA_mostToTake_22 : decode cA_mostToTake 22 = .ok (.iload_n 3, 1) := by decide +kernel
theorem dA_mostToTake_23 : decode cA_mostToTake 23 = .ok (.iconst (-1), 1) := by decide +kernel
theorem dA_mostToTake_24 : decode cA_mostToTake 24 = .ok (.if_icmp .ne 5, 3) := by decide +kernel
theorem dA_mostToTake_27 : decode cA_mostToTake 27 = .ok (.iconst 0, 1) := by decide +kernel
theorem dA_mostToTake_28 : decode cA_mostToTake 28 = .ok (.ireturn, 1) := by decide +kernel
theorem dA_mostToTake_29 : decode cA_mostToTake 29 = .ok (.aload_n 0, 1) := by decide +kernel
theorem dA_mostToTake_30 : decode cA_mostToTake 30 = .ok (.getfield 26, 3) := by decide +kernel
theorem dA_mostToTake_33 : decode cA_mostToTake 33 = .ok (.iload_n 1, 1) := by decide +kernel
theorem dA_mostToTake_34 : decode cA_mostToTake 34 = .ok (.invokevirtual 287, 3) := by decide +kernel
theorem dA_mostToTake_37 : decode cA_mostToTake 37 = .ok (.aload_n 0, 1) := by decide +kernel
theorem dA_mostToTake_38 : decode cA_mostToTake 38 = .ok (.getfield 19, 3) := by decide +kernel
theorem dA_mostToTake_41 : decode cA_mostToTake 41 = .ok (.getfield 290, 3) := by decide +kernel
theorem dA_mostToTake_44 : decode cA_mostToTake 44 = .ok (.iload_n 3, 1) := by decide +kernel
theorem dA_mostToTake_45 : decode cA_mostToTake 45 = .ok (.iaload, 1) := by decide +kernel
theorem dA_mostToTake_46 : decode cA_mostToTake 46 = .ok (.aload_n 0, 1) := by decide +kernel
theorem dA_mostToTake_47 : decode cA_mostToTake 47 = .ok (.getfield 33, 3) := by decide +kernel
theorem dA_mostToTake_50 : decode cA_mostToTake 50 = .ok (.iload_n 3, 1) := by decide +kernel
theorem dA_mostToTake_51 : decode cA_mostToTake 51 = .ok (.invokevirtual 293, 3) := by decide +kernel
theorem dA_mostToTake_54 : decode cA_mostToTake 54 = .ok (.isub, 1) := by decide +kernel
theorem dA_mostToTake_55 : decode cA_mostToTake 55 = .ok (.invokestatic 296, 3) := by decide +kernel
theorem dA_mostToTake_58 : decode cA_mostToTake 58 = .ok (.ireturn, 1) := by decide +kernel
theorem dA_take_0 : decode cA_take 0 = .ok (.iload_n 3, 1) := by decide +kernel
theorem dA_take_1 : decode cA_take 1 = .ok (.ifCond .le 17, 3) := by decide +kernel
theorem dA_take_4 : decode cA_take 4 = .ok (.aload_n 0, 1) := by decide +kernel
theorem dA_take_5 : decode cA_take 5 = .ok (.iload_n 1, 1) := by decide +kernel
theorem dA_take_6 : decode cA_take 6 = .ok (.iload_n 2, 1) := by decide +kernel
theorem dA_take_7 : decode cA_take 7 = .ok (.iload_n 3, 1) := by decide +kernel
theorem dA_take_8 : decode cA_take 8 = .ok (.aload_n 0, 1) := by decide +kernel
theorem dA_take_9 : decode cA_take 9 = .ok (.getfield 168, 3) := by decide +kernel
theorem dA_take_12 : decode cA_take 12 = .ok (.iload 4, 2) := by decide +kernel
theorem dA_take_14 : decode cA_take 14 = .ok (.iadd, 1) := by decide +kernel
theorem dA_take_15 : decode cA_take 15 = .ok (.invokevirtual 301, 3) := by decide +kernel
theorem dA_take_18 : decode cA_take 18 = .ok (.aload_n 0, 1) := by decide +kernel
theorem dA_take_19 : decode cA_take 19 = .ok (.getfield 26, 3) := by decide +kernel
theorem dA_take_22 : decode cA_take 22 = .ok (.iload_n 1, 1) := by decide +kernel
theorem dA_take_23 : decode cA_take 23 = .ok (.invokevirtual 287, 3) := by decide +kernel
theorem dA_take_26 : decode cA_take 26 = .ok (.ifCond .ne 15, 3) := by decide +kernel
theorem dA_take_29 : decode cA_take 29 = .ok (.aload_n 0, 1) := by decide +kernel
theorem dA_take_30 : decode cA_take 30 = .ok (.getfield 26, 3) := by decide +kernel
theorem dA_take_33 : decode cA_take 33 = .ok (.iload_n 1, 1) := by decide +kernel
theorem dA_take_34 : decode cA_take 34 = .ok (.iconst 1, 1) := by decide +kernel
theorem dA_take_35 : decode cA_take 35 = .ok (.invokevirtual 260, 3) := by decide +kernel
theorem dA_take_38 : decode cA_take 38 = .ok (.goto 8, 3) := by decide +kernel
theorem dA_take_41 : decode cA_take 41 = .ok (.aload_n 0, 1) := by decide +kernel
theorem dA_take_42 : decode cA_take 42 = .ok (.iload_n 1, 1) := by decide +kernel
theorem dA_take_43 : decode cA_take 43 = .ok (.invokevirtual 121, 3) := by decide +kernel
theorem dA_take_46 : decode cA_take 46 = .ok (.return_, 1) := by decide +kernel
theorem dA_lend_0 : decode cA_lend 0 = .ok (.aload_n 0, 1) := by decide +kernel
theorem dA_lend_1 : decode cA_lend 1 = .ok (.getfield 19, 3) := by decide +kernel
theorem dA_lend_4 : decode cA_lend 4 = .ok (.iload_n 2, 1) := by decide +kernel
theorem dA_lend_5 : decode cA_lend 5 = .ok (.aload_n 0, 1) := by decide +kernel
theorem dA_lend_6 : decode cA_lend 6 = .ok (.getfield 26, 3) := by decide +kernel
theorem dA_lend_9 : decode cA_lend 9 = .ok (.getfield 272, 3) := by decide +kernel
theorem dA_lend_12 : decode cA_lend 12 = .ok (.iload_n 1, 1) := by decide +kernel
theorem dA_lend_13 : decode cA_lend 13 = .ok (.iaload, 1) := by decide +kernel
theorem dA_lend_14 : decode cA_lend 14 = .ok (.aload_n 0, 1) := by decide +kernel
theorem dA_lend_15 : decode cA_lend 15 = .ok (.getfield 168, 3) := by decide +kernel
theorem dA_lend_18 : decode cA_lend 18 = .ok (.invokevirtual 275, 3) := by decide +kernel
theorem dA_lend_21 : decode cA_lend 21 = .ok (.istore 5, 2) := by decide +kernel
theorem dA_lend_23 : decode cA_lend 23 = .ok (.iconst 0, 1) := by decide +kernel
theorem dA_lend_24 : decode cA_lend 24 = .ok (.istore 6, 2) := by decide +kernel
theorem dA_lend_26 : decode cA_lend 26 = .ok (.iload 6, 2) := by decide +kernel
theorem dA_lend_28 : decode cA_lend 28 = .ok (.iload_n 3, 1) := by decide +kernel
theorem dA_lend_29 : decode cA_lend 29 = .ok (.if_icmp .ge 22, 3) := by decide +kernel
theorem dA_lend_32 : decode cA_lend 32 = .ok (.aload_n 0, 1) := by decide +kernel
theorem dA_lend_33 : decode cA_lend 33 = .ok (.getfield 33, 3) := by decide +kernel
theorem dA_lend_36 : decode cA_lend 36 = .ok (.iload_n 2, 1) := by decide +kernel
theorem dA_lend_37 : decode cA_lend 37 = .ok (.iload_n 1, 1) := by decide +kernel
theorem dA_lend_38 : decode cA_lend 38 = .ok (.iload 5, 2) := by decide +kernel
theorem dA_lend_40 : decode cA_lend 40 = .ok (.iload 4, 2) := by decide +kernel
theorem dA_lend_42 : decode cA_lend 42 = .ok (.invokevirtual 304, 3) := by decide +kernel
theorem dA_lend_45 : decode cA_lend 45 = .ok (.iinc 6 1, 3) := by decide +kernel
theorem dA_lend_48 : decode cA_lend 48 = .ok (.goto (-22), 3) := by decide +kernel
theorem dA_lend_51 : decode cA_lend 51 = .ok (.aload_n 0, 1) := by decide +kernel
theorem dA_lend_52 : decode cA_lend 52 = .ok (.getfield 26, 3) := by decide +kernel
theorem dA_lend_55 : decode cA_lend 55 = .ok (.getfield 208, 3) := by decide +kernel
theorem dA_lend_58 : decode cA_lend 58 = .ok (.iload_n 1, 1) := by decide +kernel
theorem dA_lend_59 : decode cA_lend 59 = .ok (.dup2, 1) := by decide +kernel
theorem dA_lend_60 : decode cA_lend 60 = .ok (.iaload, 1) := by decide +kernel
theorem dA_lend_61 : decode cA_lend 61 = .ok (.iload_n 3, 1) := by decide +kernel
theorem dA_lend_62 : decode cA_lend 62 = .ok (.iadd, 1) := by decide +kernel
theorem dA_lend_63 : decode cA_lend 63 = .ok (.iastore, 1) := by decide +kernel
theorem dA_lend_64 : decode cA_lend 64 = .ok (.return_, 1) := by decide +kernel
theorem dA_nextEvent_0 : decode cA_nextEvent 0 = .ok (.iload_n 1, 1) := by decide +kernel
theorem dA_nextEvent_1 : decode cA_nextEvent 1 = .ok (.istore_n 2, 1) := by decide +kernel
theorem dA_nextEvent_2 : decode cA_nextEvent 2 = .ok (.iconst 0, 1) := by decide +kernel
theorem dA_nextEvent_3 : decode cA_nextEvent 3 = .ok (.istore_n 3, 1) := by decide +kernel
theorem dA_nextEvent_4 : decode cA_nextEvent 4 = .ok (.iload_n 3, 1) := by decide +kernel
theorem dA_nextEvent_5 : decode cA_nextEvent 5 = .ok (.aload_n 0, 1) := by decide +kernel
theorem dA_nextEvent_6 : decode cA_nextEvent 6 = .ok (.getfield 26, 3) := by decide +kernel
theorem dA_nextEvent_9 : decode cA_nextEvent 9 = .ok (.getfield 306, 3) := by decide +kernel
theorem dA_nextEvent_12 : decode cA_nextEvent 12 = .ok (.if_icmp .ge 33, 3) := by decide +kernel
theorem dA_nextEvent_15 : decode cA_nextEvent 15 = .ok (.aload_n 0, 1) := by decide +kernel
theorem dA_nextEvent_16 : decode cA_nextEvent 16 = .ok (.getfield 26, 3) := by decide +kernel
theorem dA_nextEvent_19 : decode cA_nextEvent 19 = .ok (.iload_n 3, 1) := by decide +kernel
theorem dA_nextEvent_20 : decode cA_nextEvent 20 = .ok (.invokevirtual 307, 3) := by decide +kernel
theorem dA_nextEvent_23 : decode cA_nextEvent 23 = .ok (.ifCond .eq 16, 3) := by decide +kernel
theorem dA_nextEvent_26 : decode cA_nextEvent 26 = .ok (.iload_n 2, 1) := by decide +kernel
theorem dA_nextEvent_27 : decode cA_nextEvent 27 = .ok (.aload_n 0, 1) := by decide +kernel
theorem dA_nextEvent_28 : decode cA_nextEvent 28 = .ok (.getfield 26, 3) := by decide +kernel
theorem dA_nextEvent_31 : decode cA_nextEvent 31 = .ok (.iload_n 3, 1) := by decide +kernel
theorem dA_nextEvent_32 : decode cA_nextEvent 32 = .ok (.invokevirtual 310, 3) := by decide +kernel
theorem dA_nextEvent_35 : decode cA_nextEvent 35 = .ok (.invokestatic 296, 3) := by decide +kernel
theorem dA_nextEvent_38 : decode cA_nextEvent 38 = .ok (.istore_n 2, 1) := by decide +kernel
theorem dA_nextEvent_39 : decode cA_nextEvent 39 = .ok (.iinc 3 1, 3) := by decide +kernel
theorem dA_nextEvent_42 : decode cA_nextEvent 42 = .ok (.goto (-38), 3) := by decide +kernel
theorem dA_nextEvent_45 : decode cA_nextEvent 45 = .ok (.iconst 0, 1) := by decide +kernel
theorem dA_nextEvent_46 : decode cA_nextEvent 46 = .ok (.istore_n 3, 1) := by decide +kernel
theorem dA_nextEvent_47 : decode cA_nextEvent 47 = .ok (.iload_n 3, 1) := by decide +kernel
theorem dA_nextEvent_48 : decode cA_nextEvent 48 = .ok (.aload_n 0, 1) := by decide +kernel
theorem dA_nextEvent_49 : decode cA_nextEvent 49 = .ok (.getfield 33, 3) := by decide +kernel
theorem dA_nextEvent_52 : decode cA_nextEvent 52 = .ok (.getfield 234, 3) := by decide +kernel
theorem dA_nextEvent_55 : decode cA_nextEvent 55 = .ok (.if_icmp .ge 42, 3) := by decide +kernel
theorem dA_nextEvent_58 : decode cA_nextEvent 58 = .ok (.aload_n 0, 1) := by decide +kernel
theorem dA_nextEvent_59 : decode cA_nextEvent 59 = .ok (.getfield 33, 3) := by decide +kernel
theorem dA_nextEvent_62 : decode cA_nextEvent 62 = .ok (.iload_n 3, 1) := by decide +kernel
theorem dA_nextEvent_63 : decode cA_nextEvent 63 = .ok (.invokevirtual 189, 3) := by decide +kernel
theorem dA_nextEvent_66 : decode cA_nextEvent 66 = .ok (.ifCond .eq 25, 3) := by decide +kernel
theorem dA_nextEvent_69 : decode cA_nextEvent 69 = .ok (.iload_n 2, 1) := by decide +kernel
theorem dA_nextEvent_70 : decode cA_nextEvent 70 = .ok (.aload_n 0, 1) := by decide +kernel
theorem dA_nextEvent_71 : decode cA_nextEvent 71 = .ok (.getfield 19, 3) := by decide +kernel
theorem dA_nextEvent_74 : decode cA_nextEvent 74 = .ok (.getfield 313, 3) := by decide +kernel
theorem dA_nextEvent_77 : decode cA_nextEvent 77 = .ok (.aload_n 0, 1) := by decide +kernel
theorem dA_nextEvent_78 : decode cA_nextEvent 78 = .ok (.getfield 33, 3) := by decide +kernel
theorem dA_nextEvent_81 : decode cA_nextEvent 81 = .ok (.getfield 226, 3) := by decide +kernel
theorem dA_nextEvent_84 : decode cA_nextEvent 84 = .ok (.iload_n 3, 1) := by decide +kernel
theorem dA_nextEvent_85 : decode cA_nextEvent 85 = .ok (.iaload, 1) := by decide +kernel
theorem dA_nextEvent_86 : decode cA_nextEvent 86 = .ok (.iaload, 1) := by decide +kernel
theorem dA_nextEvent_87 : decode cA_nextEvent 87 = .ok (.invokestatic 296, 3) := by decide +kernel
theorem dA_nextEvent_90 : decode cA_nextEvent 90 = .ok (.istore_n 2, 1) := by decide +kernel
theorem dA_nextEvent_91 : decode cA_nextEvent 91 = .ok (.iinc 3 1, 3) := by decide +kernel
theorem dA_nextEvent_94 : decode cA_nextEvent 94 = .ok (.goto (-47), 3) := by decide +kernel
theorem dA_nextEvent_97 : decode cA_nextEvent 97 = .ok (.iload_n 2, 1) := by decide +kernel
theorem dA_nextEvent_98 : decode cA_nextEvent 98 = .ok (.ireturn, 1) := by decide +kernel
theorem dA_endLoansWithAgreements_0 : decode cA_endLoansWithAgreements 0 = .ok (.iconst 0, 1) := by decide +kernel
theorem dA_endLoansWithAgreements_1 : decode cA_endLoansWithAgreements 1 = .ok (.istore_n 1, 1) := by decide +kernel
theorem dA_endLoansWithAgreements_2 : decode cA_endLoansWithAgreements 2 = .ok (.iload_n 1, 1) := by decide +kernel
theorem dA_endLoansWithAgreements_3 : decode cA_endLoansWithAgreements 3 = .ok (.aload_n 0, 1) := by decide +kernel
theorem dA_endLoansWithAgreements_4 : decode cA_endLoansWithAgreements 4 = .ok (.getfield 33, 3) := by decide +kernel
theorem dA_endLoansWithAgreements_7 : decode cA_endLoansWithAgreements 7 = .ok (.getfield 234, 3) := by decide +kernel
theorem dA_endLoansWithAgreements_10 : decode cA_endLoansWithAgreements 10 = .ok (.if_icmp .ge 57, 3) := by decide +kernel
theorem dA_endLoansWithAgreements_13 : decode cA_endLoansWithAgreements 13 = .ok (.aload_n 0, 1) := by decide +kernel
theorem dA_endLoansWithAgreements_14 : decode cA_endLoansWithAgreements 14 = .ok (.getfield 33, 3) := by decide +kernel
theorem dA_endLoansWithAgreements_17 : decode cA_endLoansWithAgreements 17 = .ok (.iload_n 1, 1) := by decide +kernel
theorem dA_endLoansWithAgreements_18 : decode cA_endLoansWithAgreements 18 = .ok (.invokevirtual 189, 3) := by decide +kernel
theorem dA_endLoansWithAgreements_21 : decode cA_endLoansWithAgreements 21 = .ok (.ifCond .eq 40, 3) := by decide +kernel
theorem dA_endLoansWithAgreements_24 : decode cA_endLoansWithAgreements 24 = .ok (.aload_n 0, 1) := by decide +kernel
theorem dA_endLoansWithAgreements_25 : decode cA_endLoansWithAgreements 25 = .ok (.getfield 19, 3) := by decide +kernel
theorem dA_endLoansWithAgreements_28 : decode cA_endLoansWithAgreements 28 = .ok (.getfield 313, 3) := by decide +kernel
theorem dA_endLoansWithAgreements_31 : decode cA_endLoansWithAgreements 31 = .ok (.aload_n 0, 1) := by decide +kernel
theorem dA_endLoansWithAgreements_32 : decode cA_endLoansWithAgreements 32 = .ok (.getfield 33, 3) := by decide +kernel
theorem dA_endLoansWithAgreements_35 : decode cA_endLoansWithAgreements 35 = .ok (.getfield 226, 3) := by decide +kernel
theorem dA_endLoansWithAgreements_38 : decode cA_endLoansWithAgreements 38 = .ok (.iload_n 1, 1) := by decide +kernel
theorem dA_endLoansWithAgreements_39 : decode cA_endLoansWithAgreements 39 = .ok (.iaload, 1) := by decide +kernel
theorem dA_endLoansWithAgreements_40 : decode cA_endLoansWithAgreements 40 = .ok (.iaload, 1) := by decide +kernel
theorem dA_endLoansWithAgreements_41 : decode cA_endLoansWithAgreements 41 = .ok (.aload_n 0, 1) := by decide +kernel
theorem dA_endLoansWithAgreements_42 : decode cA_endLoansWithAgreements 42 = .ok (.getfield 168, 3) := by decide +kernel
theorem dA_endLoansWithAgreements_45 : decode cA_endLoansWithAgreements 45 = .ok (.if_icmp .gt 16, 3) := by decide +kernel
theorem dA_endLoansWithAgreements_48 : decode cA_endLoansWithAgreements 48 = .ok (.aload_n 0, 1) := by decide +kernel
theorem dA_endLoansWithAgreements_49 : decode cA_endLoansWithAgreements 49 = .ok (.getfield 33, 3) := by decide +kernel
theorem dA_endLoansWithAgreements_52 : decode cA_endLoansWithAgreements 52 = .ok (.getfield 194, 3) := by decide +kernel
theorem dA_endLoansWithAgreements_55 : decode cA_endLoansWithAgreements 55 = .ok (.iload_n 1, 1) := by decide +kernel
theorem dA_endLoansWithAgreements_56 : decode cA_endLoansWithAgreements 56 = .ok (.aload_n 0, 1) := by decide +kernel
theorem dA_endLoansWithAgreements_57 : decode cA_endLoansWithAgreements 57 = .ok (.getfield 168, 3) := by decide +kernel
theorem dA_endLoansWithAgreements_60 : decode cA_endLoansWithAgreements 60 = .ok (.iastore, 1) := by decide +kernel
theorem dA_endLoansWithAgreements_61 : decode cA_endLoansWithAgreements 61 = .ok (.iinc 1 1, 3) := by decide +kernel
theorem dA_endLoansWithAgreements_64 : decode cA_endLoansWithAgreements 64 = .ok (.goto (-62), 3) := by decide +kernel
theorem dA_endLoansWithAgreements_67 : decode cA_endLoansWithAgreements 67 = .ok (.return_, 1) := by decide +kernel
theorem dA_sendOnImpatientAsks_0 : decode cA_sendOnImpatientAsks 0 = .ok (.iconst 0, 1) := by decide +kernel
theorem dA_sendOnImpatientAsks_1 : decode cA_sendOnImpatientAsks 1 = .ok (.istore_n 1, 1) := by decide +kernel
theorem dA_sendOnImpatientAsks_2 : decode cA_sendOnImpatientAsks 2 = .ok (.iconst 0, 1) := by decide +kernel
theorem dA_sendOnImpatientAsks_3 : decode cA_sendOnImpatientAsks 3 = .ok (.istore_n 2, 1) := by decide +kernel
theorem dA_sendOnImpatientAsks_4 : decode cA_sendOnImpatientAsks 4 = .ok (.iload_n 2, 1) := by decide +kernel
theorem dA_sendOnImpatientAsks_5 : decode cA_sendOnImpatientAsks 5 = .ok (.aload_n 0, 1) := by decide +kernel
theorem dA_sendOnImpatientAsks_6 : decode cA_sendOnImpatientAsks 6 = .ok (.getfield 26, 3) := by decide +kernel
theorem dA_sendOnImpatientAsks_9 : decode cA_sendOnImpatientAsks 9 = .ok (.getfield 306, 3) := by decide +kernel
theorem dA_sendOnImpatientAsks_12 : decode cA_sendOnImpatientAsks 12 = .ok (.if_icmp .ge 43, 3) := by decide +kernel
theorem dA_sendOnImpatientAsks_15 : decode cA_sendOnImpatientAsks 15 = .ok (.aload_n 0, 1) := by decide +kernel
theorem dA_sendOnImpatientAsks_16 : decode cA_sendOnImpatientAsks 16 = .ok (.getfield 26, 3) := by decide +kernel
theorem dA_sendOnImpatientAsks_19 : decode cA_sendOnImpatientAsks 19 = .ok (.iload_n 2, 1) := by decide +kernel
theorem dA_sendOnImpatientAsks_20 : decode cA_sendOnImpatientAsks 20 = .ok (.invokevirtual 307, 3) := by decide +kernel
theorem dA_sendOnImpatientAsks_23 : decode cA_sendOnImpatientAsks 23 = .ok (.ifCond .eq 26, 3) := by decide +kernel
theorem dA_sendOnImpatientAsks_26 : decode cA_sendOnImpatientAsks 26 = .ok (.aload_n 0, 1) := by decide +kernel
theorem dA_sendOnImpatientAsks_27 : decode cA_sendOnImpatientAsks 27 = .ok (.getfield 26, 3) := by decide +kernel
theorem dA_sendOnImpatientAsks_30 : decode cA_sendOnImpatientAsks 30 = .ok (.iload_n 2, 1) := by decide +kernel
theorem dA_sendOnImpatientAsks_31 : decode cA_sendOnImpatientAsks 31 = .ok (.invokevirtual 310, 3) := by decide +kernel
theorem dA_sendOnImpatientAsks_34 : decode cA_sendOnImpatientAsks 34 = .ok (.aload_n 0, 1) := by decide +kernel
theorem dA_sendOnImpatientAsks_35 : decode cA_sendOnImpatientAsks 35 = .ok (.getfield 168, 3) := by decide +kernel
theorem dA_sendOnImpatientAsks_38 : decode cA_sendOnImpatientAsks 38 = .ok (.if_icmp .gt 11, 3) := by decide +kernel
theorem dA_sendOnImpatientAsks_41 : decode cA_sendOnImpatientAsks 41 = .ok (.aload_n 0, 1) := by decide +kernel
theorem dA_sendOnImpatientAsks_42 : decode cA_sendOnImpatientAsks 42 = .ok (.iload_n 2, 1) := by decide +kernel
theorem dA_sendOnImpatientAsks_43 : decode cA_sendOnImpatientAsks 43 = .ok (.invokevirtual 121, 3) := by decide +kernel
theorem dA_sendOnImpatientAsks_46 : decode cA_sendOnImpatientAsks 46 = .ok (.iinc 1 1, 3) := by decide +kernel
theorem dA_sendOnImpatientAsks_49 : decode cA_sendOnImpatientAsks 49 = .ok (.iinc 2 1, 3) := by decide +kernel
theorem dA_sendOnImpatientAsks_52 : decode cA_sendOnImpatientAsks 52 = .ok (.goto (-48), 3) := by decide +kernel
theorem dA_sendOnImpatientAsks_55 : decode cA_sendOnImpatientAsks 55 = .ok (.iload_n 1, 1) := by decide +kernel
theorem dA_sendOnImpatientAsks_56 : decode cA_sendOnImpatientAsks 56 = .ok (.ireturn, 1) := by decide +kernel
theorem dA_costOfLoan_0 : decode cA_costOfLoan 0 = .ok (.aload_n 0, 1) := by decide +kernel
theorem dA_costOfLoan_1 : decode cA_costOfLoan 1 = .ok (.getfield 33, 3) := by decide +kernel
theorem dA_costOfLoan_4 : decode cA_costOfLoan 4 = .ok (.iload_n 1, 1) := by decide +kernel
theorem dA_costOfLoan_5 : decode cA_costOfLoan 5 = .ok (.invokevirtual 189, 3) := by decide +kernel
theorem dA_costOfLoan_8 : decode cA_costOfLoan 8 = .ok (.ifCond .eq 10, 3) := by decide +kernel
theorem dA_costOfLoan_11 : decode cA_costOfLoan 11 = .ok (.aload_n 0, 1) := by decide +kernel
theorem dA_costOfLoan_12 : decode cA_costOfLoan 12 = .ok (.getfield 168, 3) := by decide +kernel
theorem dA_costOfLoan_15 : decode cA_costOfLoan 15 = .ok (.goto 12, 3) := by decide +kernel
theorem dA_costOfLoan_18 : decode cA_costOfLoan 18 = .ok (.aload_n 0, 1) := by decide +kernel
theorem dA_costOfLoan_19 : decode cA_costOfLoan 19 = .ok (.getfield 33, 3) := by decide +kernel
theorem dA_costOfLoan_22 : decode cA_costOfLoan 22 = .ok (.getfield 194, 3) := by decide +kernel
theorem dA_costOfLoan_25 : decode cA_costOfLoan 25 = .ok (.iload_n 1, 1) := by decide +kernel
theorem dA_costOfLoan_26 : decode cA_costOfLoan 26 = .ok (.iaload, 1) := by decide +kernel
theorem dA_costOfLoan_27 : decode cA_costOfLoan 27 = .ok (.istore_n 2, 1) := by decide +kernel
theorem dA_costOfLoan_28 : decode cA_costOfLoan 28 = .ok (.iload_n 2, 1) := by decide +kernel
theorem dA_costOfLoan_29 : decode cA_costOfLoan 29 = .ok (.aload_n 0, 1) := by decide +kernel
theorem dA_costOfLoan_30 : decode cA_costOfLoan 30 = .ok (.getfield 33, 3) := by decide +kernel
theorem dA_costOfLoan_33 : decode cA_costOfLoan 33 = .ok (.getfield 228, 3) := by decide +kernel
theorem dA_costOfLoan_36 : decode cA_costOfLoan 36 = .ok (.iload_n 1, 1) := by decide +kernel
theorem dA_costOfLoan_37 : decode cA_costOfLoan 37 = .ok (.iaload, 1) := by decide +kernel
theorem dA_costOfLoan_38 : decode cA_costOfLoan 38 = .ok (.isub, 1) := by decide +kernel
theorem dA_costOfLoan_39 : decode cA_costOfLoan 39 = .ok (.istore_n 3, 1) := by decide +kernel
theorem dA_costOfLoan_40 : decode cA_costOfLoan 40 = .ok (.iload_n 3, 1) := by decide +kernel
theorem dA_costOfLoan_41 : decode cA_costOfLoan 41 = .ok (.ifCond .gt 5, 3) := by decide +kernel
theorem dA_costOfLoan_44 : decode cA_costOfLoan 44 = .ok (.iconst 0, 1) := by decide +kernel
theorem dA_costOfLoan_45 : decode cA_costOfLoan 45 = .ok (.ireturn, 1) := by decide +kernel
theorem dA_costOfLoan_46 : decode cA_costOfLoan 46 = .ok (.iload_n 3, 1) := by decide +kernel
theorem dA_costOfLoan_47 : decode cA_costOfLoan 47 = .ok (.bipush 60, 2) := by decide +kernel
theorem dA_costOfLoan_49 : decode cA_costOfLoan 49 = .ok (.iadd, 1) := by decide +kernel
theorem dA_costOfLoan_50 : decode cA_costOfLoan 50 = .ok (.iconst 1, 1) := by decide +kernel
theorem dA_costOfLoan_51 : decode cA_costOfLoan 51 = .ok (.isub, 1) := by decide +kernel
theorem dA_costOfLoan_52 : decode cA_costOfLoan 52 = .ok (.bipush 60, 2) := by decide +kernel
theorem dA_costOfLoan_54 : decode cA_costOfLoan 54 = .ok (.idiv, 1) := by decide +kernel
theorem dA_costOfLoan_55 : decode cA_costOfLoan 55 = .ok (.istore 4, 2) := by decide +kernel
theorem dA_costOfLoan_57 : decode cA_costOfLoan 57 = .ok (.iload 4, 2) := by decide +kernel
theorem dA_costOfLoan_59 : decode cA_costOfLoan 59 = .ok (.aload_n 0, 1) := by decide +kernel
theorem dA_costOfLoan_60 : decode cA_costOfLoan 60 = .ok (.getfield 10, 3) := by decide +kernel
theorem dA_costOfLoan_63 : decode cA_costOfLoan 63 = .ok (.getfield 316, 3) := by decide +kernel
theorem dA_costOfLoan_66 : decode cA_costOfLoan 66 = .ok (.aload_n 0, 1) := by decide +kernel
theorem dA_costOfLoan_67 : decode cA_costOfLoan 67 = .ok (.getfield 33, 3) := by decide +kernel
theorem dA_costOfLoan_70 : decode cA_costOfLoan 70 = .ok (.getfield 219, 3) := by decide +kernel
theorem dA_costOfLoan_73 : decode cA_costOfLoan 73 = .ok (.iload_n 1, 1) := by decide +kernel
theorem dA_costOfLoan_74 : decode cA_costOfLoan 74 = .ok (.iaload, 1) := by decide +kernel
theorem dA_costOfLoan_75 : decode cA_costOfLoan 75 = .ok (.iaload, 1) := by decide +kernel
theorem dA_costOfLoan_76 : decode cA_costOfLoan 76 = .ok (.imul, 1) := by decide +kernel
theorem dA_costOfLoan_77 : decode cA_costOfLoan 77 = .ok (.ireturn, 1) := by decide +kernel
theorem dHo_init_0 : decode cHo_init 0 = .ok (.aload_n 0, 1) := by decide +kernel
theorem dHo_init_1 : decode cHo_init 1 = .ok (.invokespecial 3, 3) := by decide +kernel
theorem dHo_init_4 : decode cHo_init 4 = .ok (.aload_n 0, 1) := by decide +kernel
theorem dHo_init_5 : decode cHo_init 5 = .ok (.bipush 8, 2) := by decide +kernel
theorem dHo_init_7 : decode cHo_init 7 = .ok (.newarray .int, 2) := by decide +kernel
theorem dHo_init_9 : decode cHo_init 9 = .ok (.putfield 9, 3) := by decide +kernel
theorem dHo_init_12 : decode cHo_init 12 = .ok (.aload_n 0, 1) := by decide +kernel
theorem dHo_init_13 : decode cHo_init 13 = .ok (.bipush 8, 2) := by decide +kernel
theorem dHo_init_15 : decode cHo_init 15 = .ok (.newarray .int, 2) := by decide +kernel
theorem dHo_init_17 : decode cHo_init 17 = .ok (.putfield 15, 3) := by decide +kernel
theorem dHo_init_20 : decode cHo_init 20 = .ok (.aload_n 0, 1) := by decide +kernel
theorem dHo_init_21 : decode cHo_init 21 = .ok (.bipush 8, 2) := by decide +kernel
theorem dHo_init_23 : decode cHo_init 23 = .ok (.newarray .boolean, 2) := by decide +kernel
theorem dHo_init_25 : decode cHo_init 25 = .ok (.putfield 18, 3) := by decide +kernel
theorem dHo_init_28 : decode cHo_init 28 = .ok (.return_, 1) := by decide +kernel
theorem dHo_has_0 : decode cHo_has 0 = .ok (.iload_n 1, 1) := by decide +kernel
theorem dHo_has_1 : decode cHo_has 1 = .ok (.ifCond .lt 15, 3) := by decide +kernel
theorem dHo_has_4 : decode cHo_has 4 = .ok (.iload_n 1, 1) := by decide +kernel
theorem dHo_has_5 : decode cHo_has 5 = .ok (.aload_n 0, 1) := by decide +kernel
theorem dHo_has_6 : decode cHo_has 6 = .ok (.getfield 22, 3) := by decide +kernel
theorem dHo_has_9 : decode cHo_has 9 = .ok (.if_icmp .ge 7, 3) := by decide +kernel
theorem dHo_has_12 : decode cHo_has 12 = .ok (.iconst 1, 1) := by decide +kernel
