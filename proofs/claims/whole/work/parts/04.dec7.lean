theorem dB_cost_47 : decode cB_cost 47 = .ok (.istore_n 2, 1) := by decide +kernel
theorem dB_cost_48 : decode cB_cost 48 = .ok (.iinc 3 1, 3) := by decide +kernel
theorem dB_cost_51 : decode cB_cost 51 = .ok (.goto (-29), 3) := by decide +kernel
theorem dB_cost_54 : decode cB_cost 54 = .ok (.iload_n 2, 1) := by decide +kernel
theorem dB_cost_55 : decode cB_cost 55 = .ok (.ireturn, 1) := by decide +kernel
theorem dB_named_0 : decode cB_named 0 = .ok (.aload_n 0, 1) := by decide +kernel
theorem dB_named_1 : decode cB_named 1 = .ok (.iconst 0, 1) := by decide +kernel
theorem dB_named_2 : decode cB_named 2 = .ok (.putfield 95, 3) := by decide +kernel
theorem dB_named_5 : decode cB_named 5 = .ok (.iconst 0, 1) := by decide +kernel
theorem dB_named_6 : decode cB_named 6 = .ok (.istore_n 2, 1) := by decide +kernel
theorem dB_named_7 : decode cB_named 7 = .ok (.iload_n 2, 1) := by decide +kernel
theorem dB_named_8 : decode cB_named 8 = .ok (.aload_n 0, 1) := by decide +kernel
theorem dB_named_9 : decode cB_named 9 = .ok (.getfield 135, 3) := by decide +kernel
theorem dB_named_12 : decode cB_named 12 = .ok (.if_icmp .ge 30, 3) := by decide +kernel
theorem dB_named_15 : decode cB_named 15 = .ok (.aload_n 0, 1) := by decide +kernel
theorem dB_named_16 : decode cB_named 16 = .ok (.getfield 86, 3) := by decide +kernel
theorem dB_named_19 : decode cB_named 19 = .ok (.iload_n 2, 1) := by decide +kernel
theorem dB_named_20 : decode cB_named 20 = .ok (.iaload, 1) := by decide +kernel
theorem dB_named_21 : decode cB_named 21 = .ok (.ifCond .ge 15, 3) := by decide +kernel
theorem dB_named_24 : decode cB_named 24 = .ok (.aload_n 0, 1) := by decide +kernel
theorem dB_named_25 : decode cB_named 25 = .ok (.getfield 74, 3) := by decide +kernel
theorem dB_named_28 : decode cB_named 28 = .ok (.iload_n 2, 1) := by decide +kernel
theorem dB_named_29 : decode cB_named 29 = .ok (.iaload, 1) := by decide +kernel
theorem dB_named_30 : decode cB_named 30 = .ok (.iload_n 1, 1) := by decide +kernel
theorem dB_named_31 : decode cB_named 31 = .ok (.if_icmp .ne 5, 3) := by decide +kernel
theorem dB_named_34 : decode cB_named 34 = .ok (.iload_n 2, 1) := by decide +kernel
theorem dB_named_35 : decode cB_named 35 = .ok (.ireturn, 1) := by decide +kernel
theorem dB_named_36 : decode cB_named 36 = .ok (.iinc 2 1, 3) := by decide +kernel
theorem dB_named_39 : decode cB_named 39 = .ok (.goto (-32), 3) := by decide +kernel
theorem dB_named_42 : decode cB_named 42 = .ok (.iconst (-1), 1) := by decide +kernel
theorem dB_named_43 : decode cB_named 43 = .ok (.ireturn, 1) := by decide +kernel
theorem dB_hand_0 : decode cB_hand 0 = .ok (.iload_n 1, 1) := by decide +kernel
theorem dB_hand_1 : decode cB_hand 1 = .ok (.iconst 0, 1) := by decide +kernel
theorem dB_hand_2 : decode cB_hand 2 = .ok (.bipush 99, 2) := by decide +kernel
theorem dB_hand_4 : decode cB_hand 4 = .ok (.invokestatic 102, 3) := by decide +kernel
theorem dB_hand_7 : decode cB_hand 7 = .ok (.ifCond .eq 15, 3) := by decide +kernel
theorem dB_hand_10 : decode cB_hand 10 = .ok (.aload_n 0, 1) := by decide +kernel
theorem dB_hand_11 : decode cB_hand 11 = .ok (.iload_n 2, 1) := by decide +kernel
theorem dB_hand_12 : decode cB_hand 12 = .ok (.invokevirtual 110, 3) := by decide +kernel
theorem dB_hand_15 : decode cB_hand 15 = .ok (.ifCond .eq 7, 3) := by decide +kernel
theorem dB_hand_18 : decode cB_hand 18 = .ok (.iconst 1, 1) := by decide +kernel
theorem dB_hand_19 : decode cB_hand 19 = .ok (.goto 4, 3) := by decide +kernel
theorem dB_hand_22 : decode cB_hand 22 = .ok (.iconst 0, 1) := by decide +kernel
theorem dB_hand_23 : decode cB_hand 23 = .ok (.istore_n 3, 1) := by decide +kernel
theorem dB_hand_24 : decode cB_hand 24 = .ok (.aload_n 0, 1) := by decide +kernel
theorem dB_hand_25 : decode cB_hand 25 = .ok (.iconst 5, 1) := by decide +kernel
theorem dB_hand_26 : decode cB_hand 26 = .ok (.iload_n 3, 1) := by decide +kernel
theorem dB_hand_27 : decode cB_hand 27 = .ok (.iconst 1, 1) := by decide +kernel
theorem dB_hand_28 : decode cB_hand 28 = .ok (.iload_n 3, 1) := by decide +kernel
theorem dB_hand_29 : decode cB_hand 29 = .ok (.ifCond .eq 25, 3) := by decide +kernel
theorem dB_hand_32 : decode cB_hand 32 = .ok (.aload_n 0, 1) := by decide +kernel
theorem dB_hand_33 : decode cB_hand 33 = .ok (.getfield 92, 3) := by decide +kernel
theorem dB_hand_36 : decode cB_hand 36 = .ok (.iload_n 1, 1) := by decide +kernel
theorem dB_hand_37 : decode cB_hand 37 = .ok (.iaload, 1) := by decide +kernel
theorem dB_hand_38 : decode cB_hand 38 = .ok (.ifCond .ge 16, 3) := by decide +kernel
theorem dB_hand_41 : decode cB_hand 41 = .ok (.aload_n 0, 1) := by decide +kernel
theorem dB_hand_42 : decode cB_hand 42 = .ok (.getfield 16, 3) := by decide +kernel
theorem dB_hand_45 : decode cB_hand 45 = .ok (.iload_n 2, 1) := by decide +kernel
theorem dB_hand_46 : decode cB_hand 46 = .ok (.baload, 1) := by decide +kernel
theorem dB_hand_47 : decode cB_hand 47 = .ok (.ifCond .ne 7, 3) := by decide +kernel
theorem dB_hand_50 : decode cB_hand 50 = .ok (.iconst 1, 1) := by decide +kernel
theorem dB_hand_51 : decode cB_hand 51 = .ok (.goto 4, 3) := by decide +kernel
theorem dB_hand_54 : decode cB_hand 54 = .ok (.iconst 0, 1) := by decide +kernel
theorem dB_hand_55 : decode cB_hand 55 = .ok (.iconst 1, 1) := by decide +kernel
theorem dB_hand_56 : decode cB_hand 56 = .ok (.invokevirtual 106, 3) := by decide +kernel
theorem dB_hand_59 : decode cB_hand 59 = .ok (.ifCond .eq 10, 3) := by decide +kernel
theorem dB_hand_62 : decode cB_hand 62 = .ok (.aload_n 0, 1) := by decide +kernel
theorem dB_hand_63 : decode cB_hand 63 = .ok (.getfield 92, 3) := by decide +kernel
theorem dB_hand_66 : decode cB_hand 66 = .ok (.iload_n 1, 1) := by decide +kernel
theorem dB_hand_67 : decode cB_hand 67 = .ok (.iload_n 2, 1) := by decide +kernel
theorem dB_hand_68 : decode cB_hand 68 = .ok (.iastore, 1) := by decide +kernel
theorem dB_hand_69 : decode cB_hand 69 = .ok (.return_, 1) := by decide +kernel
theorem dB_handed_0 : decode cB_handed 0 = .ok (.aload_n 0, 1) := by decide +kernel
theorem dB_handed_1 : decode cB_handed 1 = .ok (.iconst 1, 1) := by decide +kernel
theorem dB_handed_2 : decode cB_handed 2 = .ok (.iload_n 1, 1) := by decide +kernel
theorem dB_handed_3 : decode cB_handed 3 = .ok (.iconst 0, 1) := by decide +kernel
theorem dB_handed_4 : decode cB_handed 4 = .ok (.bipush 99, 2) := by decide +kernel
theorem dB_handed_6 : decode cB_handed 6 = .ok (.invokestatic 102, 3) := by decide +kernel
theorem dB_handed_9 : decode cB_handed 9 = .ok (.iconst 1, 1) := by decide +kernel
theorem dB_handed_10 : decode cB_handed 10 = .ok (.iconst 1, 1) := by decide +kernel
theorem dB_handed_11 : decode cB_handed 11 = .ok (.iconst 1, 1) := by decide +kernel
theorem dB_handed_12 : decode cB_handed 12 = .ok (.invokevirtual 106, 3) := by decide +kernel
theorem dB_handed_15 : decode cB_handed 15 = .ok (.ifCond .ne 5, 3) := by decide +kernel
theorem dB_handed_18 : decode cB_handed 18 = .ok (.iconst 0, 1) := by decide +kernel
theorem dB_handed_19 : decode cB_handed 19 = .ok (.ireturn, 1) := by decide +kernel
theorem dB_handed_20 : decode cB_handed 20 = .ok (.aload_n 0, 1) := by decide +kernel
theorem dB_handed_21 : decode cB_handed 21 = .ok (.getfield 92, 3) := by decide +kernel
theorem dB_handed_24 : decode cB_handed 24 = .ok (.iload_n 1, 1) := by decide +kernel
theorem dB_handed_25 : decode cB_handed 25 = .ok (.iaload, 1) := by decide +kernel
theorem dB_handed_26 : decode cB_handed 26 = .ok (.ireturn, 1) := by decide +kernel
theorem dB_count_0 : decode cB_count 0 = .ok (.aload_n 0, 1) := by decide +kernel
theorem dB_count_1 : decode cB_count 1 = .ok (.iconst 1, 1) := by decide +kernel
theorem dB_count_2 : decode cB_count 2 = .ok (.iload_n 1, 1) := by decide +kernel
theorem dB_count_3 : decode cB_count 3 = .ok (.iconst 0, 1) := by decide +kernel
theorem dB_count_4 : decode cB_count 4 = .ok (.iconst 4, 1) := by decide +kernel
theorem dB_count_5 : decode cB_count 5 = .ok (.invokestatic 102, 3) := by decide +kernel
theorem dB_count_8 : decode cB_count 8 = .ok (.iconst 1, 1) := by decide +kernel
theorem dB_count_9 : decode cB_count 9 = .ok (.iconst 1, 1) := by decide +kernel
theorem dB_count_10 : decode cB_count 10 = .ok (.iconst 1, 1) := by decide +kernel
theorem dB_count_11 : decode cB_count 11 = .ok (.invokevirtual 106, 3) := by decide +kernel
theorem dB_count_14 : decode cB_count 14 = .ok (.ifCond .ne 5, 3) := by decide +kernel
theorem dB_count_17 : decode cB_count 17 = .ok (.iconst 0, 1) := by decide +kernel
theorem dB_count_18 : decode cB_count 18 = .ok (.ireturn, 1) := by decide +kernel
theorem dB_count_19 : decode cB_count 19 = .ok (.iconst 0, 1) := by decide +kernel
theorem dB_count_20 : decode cB_count 20 = .ok (.istore_n 2, 1) := by decide +kernel
theorem dB_count_21 : decode cB_count 21 = .ok (.iconst 0, 1) := by decide +kernel
theorem dB_count_22 : decode cB_count 22 = .ok (.istore_n 3, 1) := by decide +kernel
theorem dB_count_23 : decode cB_count 23 = .ok (.iload_n 3, 1) := by decide +kernel
theorem dB_count_24 : decode cB_count 24 = .ok (.aload_n 0, 1) := by decide +kernel
theorem dB_count_25 : decode cB_count 25 = .ok (.getfield 135, 3) := by decide +kernel
theorem dB_count_28 : decode cB_count 28 = .ok (.if_icmp .ge 26, 3) := by decide +kernel
theorem dB_count_31 : decode cB_count 31 = .ok (.iload_n 1, 1) := by decide +kernel
theorem dB_count_32 : decode cB_count 32 = .ok (.iconst 1, 1) := by decide +kernel
theorem dB_count_33 : decode cB_count 33 = .ok (.if_icmp .ne 15, 3) := by decide +kernel
theorem dB_count_36 : decode cB_count 36 = .ok (.aload_n 0, 1) := by decide +kernel
theorem dB_count_37 : decode cB_count 37 = .ok (.getfield 86, 3) := by decide +kernel
theorem dB_count_40 : decode cB_count 40 = .ok (.iload_n 3, 1) := by decide +kernel
theorem dB_count_41 : decode cB_count 41 = .ok (.iaload, 1) := by decide +kernel
theorem dB_count_42 : decode cB_count 42 = .ok (.ifCond .ge 6, 3) := by decide +kernel
theorem dB_count_45 : decode cB_count 45 = .ok (.iinc 2 1, 3) := by decide +kernel
theorem dB_count_48 : decode cB_count 48 = .ok (.iinc 3 1, 3) := by decide +kernel
theorem dB_count_51 : decode cB_count 51 = .ok (.goto (-28), 3) := by decide +kernel
theorem dB_count_54 : decode cB_count 54 = .ok (.iconst 0, 1) := by decide +kernel
theorem dB_count_55 : decode cB_count 55 = .ok (.istore_n 3, 1) := by decide +kernel
theorem dB_count_56 : decode cB_count 56 = .ok (.iload_n 3, 1) := by decide +kernel
theorem dB_count_57 : decode cB_count 57 = .ok (.aload_n 0, 1) := by decide +kernel
theorem dB_count_58 : decode cB_count 58 = .ok (.getfield 128, 3) := by decide +kernel
theorem dB_count_61 : decode cB_count 61 = .ok (.if_icmp .ge 26, 3) := by decide +kernel
theorem dB_count_64 : decode cB_count 64 = .ok (.iload_n 1, 1) := by decide +kernel
theorem dB_count_65 : decode cB_count 65 = .ok (.iconst 2, 1) := by decide +kernel
theorem dB_count_66 : decode cB_count 66 = .ok (.if_icmp .ne 15, 3) := by decide +kernel
theorem dB_count_69 : decode cB_count 69 = .ok (.aload_n 0, 1) := by decide +kernel
theorem dB_count_70 : decode cB_count 70 = .ok (.getfield 50, 3) := by decide +kernel
theorem dB_count_73 : decode cB_count 73 = .ok (.iload_n 3, 1) := by decide +kernel
theorem dB_count_74 : decode cB_count 74 = .ok (.iaload, 1) := by decide +kernel
theorem dB_count_75 : decode cB_count 75 = .ok (.ifCond .ne 6, 3) := by decide +kernel
theorem dB_count_78 : decode cB_count 78 = .ok (.iinc 2 1, 3) := by decide +kernel
theorem dB_count_81 : decode cB_count 81 = .ok (.iinc 3 1, 3) := by decide +kernel
theorem dB_count_84 : decode cB_count 84 = .ok (.goto (-28), 3) := by decide +kernel
theorem dB_count_87 : decode cB_count 87 = .ok (.iload_n 1, 1) := by decide +kernel
theorem dB_count_88 : decode cB_count 88 = .ok (.ifCond .ne 10, 3) := by decide +kernel
theorem dB_count_91 : decode cB_count 91 = .ok (.aload_n 0, 1) := by decide +kernel
theorem dB_count_92 : decode cB_count 92 = .ok (.getfield 118, 3) := by decide +kernel
theorem dB_count_95 : decode cB_count 95 = .ok (.goto 28, 3) := by decide +kernel
theorem dB_count_98 : decode cB_count 98 = .ok (.iload_n 1, 1) := by decide +kernel
theorem dB_count_99 : decode cB_count 99 = .ok (.iconst 3, 1) := by decide +kernel
theorem dB_count_100 : decode cB_count 100 = .ok (.if_icmp .ne 10, 3) := by decide +kernel
theorem dB_count_103 : decode cB_count 103 = .ok (.aload_n 0, 1) := by decide +kernel
theorem dB_count_104 : decode cB_count 104 = .ok (.getfield 149, 3) := by decide +kernel
theorem dB_count_107 : decode cB_count 107 = .ok (.goto 16, 3) := by decide +kernel
theorem dB_count_110 : decode cB_count 110 = .ok (.iload_n 1, 1) := by decide +kernel
theorem dB_count_111 : decode cB_count 111 = .ok (.iconst 4, 1) := by decide +kernel
theorem dB_count_112 : decode cB_count 112 = .ok (.if_icmp .ne 10, 3) := by decide +kernel
theorem dB_count_115 : decode cB_count 115 = .ok (.aload_n 0, 1) := by decide +kernel
theorem dB_count_116 : decode cB_count 116 = .ok (.getfield 152, 3) := by decide +kernel
theorem dB_count_119 : decode cB_count 119 = .ok (.goto 4, 3) := by decide +kernel
theorem dB_count_122 : decode cB_count 122 = .ok (.iload_n 2, 1) := by decide +kernel
theorem dB_count_123 : decode cB_count 123 = .ok (.ireturn, 1) := by decide +kernel
theorem dL_house_0 : decode cL_house 0 = .ok (.aload_n 3, 1) := by decide +kernel
theorem dL_house_1 : decode cL_house 1 = .ok (.iconst 0, 1) := by decide +kernel
theorem dL_house_2 : decode cL_house 2 = .ok (.aload_n 0, 1) := by decide +kernel
theorem dL_house_3 : decode cL_house 3 = .ok (.iload_n 1, 1) := by decide +kernel
theorem dL_house_4 : decode cL_house 4 = .ok (.iload_n 2, 1) := by decide +kernel
theorem dL_house_5 : decode cL_house 5 = .ok (.invokevirtual 7, 3) := by decide +kernel
theorem dL_house_8 : decode cL_house 8 = .ok (.i2l, 1) := by decide +kernel
theorem dL_house_9 : decode cL_house 9 = .ok (.lastore, 1) := by decide +kernel
theorem dL_house_10 : decode cL_house 10 = .ok (.goto 11, 3) := by decide +kernel
theorem dL_house_13 : decode cL_house 13 = .ok (.astore 4, 2) := by decide +kernel
theorem dL_house_15 : decode cL_house 15 = .ok (.iconst 1, 1) := by decide +kernel
theorem dL_house_16 : decode cL_house 16 = .ok (.ireturn, 1) := by decide +kernel
theorem dL_house_17 : decode cL_house 17 = .ok (.astore 4, 2) := by decide +kernel
theorem dL_house_19 : decode cL_house 19 = .ok (.iconst 2, 1) := by decide +kernel
theorem dL_house_20 : decode cL_house 20 = .ok (.ireturn, 1) := by decide +kernel
theorem dL_house_21 : decode cL_house 21 = .ok (.iconst 0, 1) := by decide +kernel
theorem dL_house_22 : decode cL_house 22 = .ok (.ireturn, 1) := by decide +kernel
theorem dL_agree_0 : decode cL_agree 0 = .ok (.aload 7, 2) := by decide +kernel
theorem dL_agree_2 : decode cL_agree 2 = .ok (.iconst 0, 1) := by decide +kernel
theorem dL_agree_3 : decode cL_agree 3 = .ok (.aload_n 0, 1) := by decide +kernel
theorem dL_agree_4 : decode cL_agree 4 = .ok (.iload_n 1, 1) := by decide +kernel
theorem dL_agree_5 : decode cL_agree 5 = .ok (.iload_n 2, 1) := by decide +kernel
theorem dL_agree_6 : decode cL_agree 6 = .ok (.iload_n 3, 1) := by decide +kernel
theorem dL_agree_7 : decode cL_agree 7 = .ok (.iload 4, 2) := by decide +kernel
theorem dL_agree_9 : decode cL_agree 9 = .ok (.iload 5, 2) := by decide +kernel
theorem dL_agree_11 : decode cL_agree 11 = .ok (.iload 6, 2) := by decide +kernel
theorem dL_agree_13 : decode cL_agree 13 = .ok (.invokevirtual 17, 3) := by decide +kernel
theorem dL_agree_16 : decode cL_agree 16 = .ok (.i2l, 1) := by decide +kernel
theorem dL_agree_17 : decode cL_agree 17 = .ok (.lastore, 1) := by decide +kernel
theorem dL_agree_18 : decode cL_agree 18 = .ok (.goto 19, 3) := by decide +kernel
theorem dL_agree_21 : decode cL_agree 21 = .ok (.astore 8, 2) := by decide +kernel
theorem dL_agree_23 : decode cL_agree 23 = .ok (.iconst 1, 1) := by decide +kernel
theorem dL_agree_24 : decode cL_agree 24 = .ok (.ireturn, 1) := by decide +kernel
theorem dL_agree_25 : decode cL_agree 25 = .ok (.astore 8, 2) := by decide +kernel
theorem dL_agree_27 : decode cL_agree 27 = .ok (.iconst 2, 1) := by decide +kernel
theorem dL_agree_28 : decode cL_agree 28 = .ok (.ireturn, 1) := by decide +kernel
theorem dL_agree_29 : decode cL_agree 29 = .ok (.astore 8, 2) := by decide +kernel
theorem dL_agree_31 : decode cL_agree 31 = .ok (.iconst 3, 1) := by decide +kernel
theorem dL_agree_32 : decode cL_agree 32 = .ok (.ireturn, 1) := by decide +kernel
theorem dL_agree_33 : decode cL_agree 33 = .ok (.astore 8, 2) := by decide +kernel
theorem dL_agree_35 : decode cL_agree 35 = .ok (.iconst 4, 1) := by decide +kernel
theorem dL_agree_36 : decode cL_agree 36 = .ok (.ireturn, 1) := by decide +kernel
theorem dL_agree_37 : decode cL_agree 37 = .ok (.iconst 0, 1) := by decide +kernel
theorem dL_agree_38 : decode cL_agree 38 = .ok (.ireturn, 1) := by decide +kernel
theorem dL_ask_0 : decode cL_ask 0 = .ok (.aload 4, 2) := by decide +kernel
theorem dL_ask_2 : decode cL_ask 2 = .ok (.iconst 0, 1) := by decide +kernel
theorem dL_ask_3 : decode cL_ask 3 = .ok (.aload_n 0, 1) := by decide +kernel
theorem dL_ask_4 : decode cL_ask 4 = .ok (.iload_n 1, 1) := by decide +kernel
theorem dL_ask_5 : decode cL_ask 5 = .ok (.iload_n 2, 1) := by decide +kernel
theorem dL_ask_6 : decode cL_ask 6 = .ok (.iload_n 3, 1) := by decide +kernel
theorem dL_ask_7 : decode cL_ask 7 = .ok (.invokevirtual 25, 3) := by decide +kernel
theorem dL_ask_10 : decode cL_ask 10 = .ok (.i2l, 1) := by decide +kernel
theorem dL_ask_11 : decode cL_ask 11 = .ok (.lastore, 1) := by decide +kernel
theorem dL_ask_12 : decode cL_ask 12 = .ok (.goto 15, 3) := by decide +kernel
theorem dL_ask_15 : decode cL_ask 15 = .ok (.astore 5, 2) := by decide +kernel
theorem dL_ask_17 : decode cL_ask 17 = .ok (.iconst 1, 1) := by decide +kernel
theorem dL_ask_18 : decode cL_ask 18 = .ok (.ireturn, 1) := by decide +kernel
theorem dL_ask_19 : decode cL_ask 19 = .ok (.astore 5, 2) := by decide +kernel
theorem dL_ask_21 : decode cL_ask 21 = .ok (.iconst 2, 1) := by decide +kernel
theorem dL_ask_22 : decode cL_ask 22 = .ok (.ireturn, 1) := by decide +kernel
theorem dL_ask_23 : decode cL_ask 23 = .ok (.astore 5, 2) := by decide +kernel
theorem dL_ask_25 : decode cL_ask 25 = .ok (.iconst 3, 1) := by decide +kernel
theorem dL_ask_26 : decode cL_ask 26 = .ok (.ireturn, 1) := by decide +kernel
theorem dL_ask_27 : decode cL_ask 27 = .ok (.iconst 0, 1) := by decide +kernel
theorem dL_ask_28 : decode cL_ask 28 = .ok (.ireturn, 1) := by decide +kernel
theorem dL_message_0 : decode cL_message 0 = .ok (.aload 6, 2) := by decide +kernel
theorem dL_message_2 : decode cL_message 2 = .ok (.iconst 0, 1) := by decide +kernel
theorem dL_message_3 : decode cL_message 3 = .ok (.aload_n 0, 1) := by decide +kernel
theorem dL_message_4 : decode cL_message 4 = .ok (.iload_n 1, 1) := by decide +kernel
theorem dL_message_5 : decode cL_message 5 = .ok (.iload_n 2, 1) := by decide +kernel
theorem dL_message_6 : decode cL_message 6 = .ok (.iload_n 3, 1) := by decide +kernel
theorem dL_message_7 : decode cL_message 7 = .ok (.iload 4, 2) := by decide +kernel
theorem dL_message_9 : decode cL_message 9 = .ok (.iload 5, 2) := by decide +kernel
theorem dL_message_11 : decode cL_message 11 = .ok (.invokevirtual 29, 3) := by decide +kernel
theorem dL_message_14 : decode cL_message 14 = .ok (.i2l, 1) := by decide +kernel
theorem dL_message_15 : decode cL_message 15 = .ok (.lastore, 1) := by decide +kernel
theorem dL_message_16 : decode cL_message 16 = .ok (.goto 15, 3) := by decide +kernel
theorem dL_message_19 : decode cL_message 19 = .ok (.astore 7, 2) := by decide +kernel
theorem dL_message_21 : decode cL_message 21 = .ok (.iconst 1, 1) := by decide +kernel
theorem dL_message_22 : decode cL_message 22 = .ok (.ireturn, 1) := by decide +kernel
theorem dL_message_23 : decode cL_message 23 = .ok (.astore 7, 2) := by decide +kernel
theorem dL_message_25 : decode cL_message 25 = .ok (.iconst 2, 1) := by decide +kernel
theorem dL_message_26 : decode cL_message 26 = .ok (.ireturn, 1) := by decide +kernel
theorem dL_message_27 : decode cL_message 27 = .ok (.astore 7, 2) := by decide +kernel
theorem dL_message_29 : decode cL_message 29 = .ok (.iconst 3, 1) := by decide +kernel
theorem dL_message_30 : decode cL_message 30 = .ok (.ireturn, 1) := by decide +kernel
theorem dL_message_31 : decode cL_message 31 = .ok (.iconst 0, 1) := by decide +kernel
theorem dL_message_32 : decode cL_message 32 = .ok (.ireturn, 1) := by decide +kernel
theorem dL_seen_0 : decode cL_seen 0 = .ok (.aload_n 3, 1) := by decide +kernel
theorem dL_seen_1 : decode cL_seen 1 = .ok (.iconst 0, 1) := by decide +kernel
theorem dL_seen_2 : decode cL_seen 2 = .ok (.aload_n 0, 1) := by decide +kernel
theorem dL_seen_3 : decode cL_seen 3 = .ok (.iload_n 1, 1) := by decide +kernel
theorem dL_seen_4 : decode cL_seen 4 = .ok (.iload_n 2, 1) := by decide +kernel
theorem dL_seen_5 : decode cL_seen 5 = .ok (.invokevirtual 33, 3) := by decide +kernel
theorem dL_seen_8 : decode cL_seen 8 = .ok (.i2l, 1) := by decide +kernel
theorem dL_seen_9 : decode cL_seen 9 = .ok (.lastore, 1) := by decide +kernel
theorem dL_seen_10 : decode cL_seen 10 = .ok (.goto 11, 3) := by decide +kernel
theorem dL_seen_13 : decode cL_seen 13 = .ok (.astore 4, 2) := by decide +kernel
theorem dL_seen_15 : decode cL_seen 15 = .ok (.iconst 1, 1) := by decide +kernel
theorem dL_seen_16 : decode cL_seen 16 = .ok (.ireturn, 1) := by decide +kernel
theorem dL_seen_17 : decode cL_seen 17 = .ok (.astore 4, 2) := by decide +kernel
theorem dL_seen_19 : decode cL_seen 19 = .ok (.iconst 2, 1) := by decide +kernel
theorem dL_seen_20 : decode cL_seen 20 = .ok (.ireturn, 1) := by decide +kernel
theorem dL_seen_21 : decode cL_seen 21 = .ok (.iconst 0, 1) := by decide +kernel
theorem dL_seen_22 : decode cL_seen 22 = .ok (.ireturn, 1) := by decide +kernel
theorem dL_tick_0 : decode cL_tick 0 = .ok (.aload_n 2, 1) := by decide +kernel
theorem dL_tick_1 : decode cL_tick 1 = .ok (.iconst 0, 1) := by decide +kernel
theorem dL_tick_2 : decode cL_tick 2 = .ok (.aload_n 0, 1) := by decide +kernel
theorem dL_tick_3 : decode cL_tick 3 = .ok (.iload_n 1, 1) := by decide +kernel
theorem dL_tick_4 : decode cL_tick 4 = .ok (.invokevirtual 36, 3) := by decide +kernel
theorem dL_tick_7 : decode cL_tick 7 = .ok (.i2l, 1) := by decide +kernel
theorem dL_tick_8 : decode cL_tick 8 = .ok (.lastore, 1) := by decide +kernel
theorem dL_tick_9 : decode cL_tick 9 = .ok (.goto 6, 3) := by decide +kernel
theorem dL_tick_12 : decode cL_tick 12 = .ok (.astore_n 3, 1) := by decide +kernel
theorem dL_tick_13 : decode cL_tick 13 = .ok (.iconst 1, 1) := by decide +kernel
theorem dL_tick_14 : decode cL_tick 14 = .ok (.ireturn, 1) := by decide +kernel
theorem dL_tick_15 : decode cL_tick 15 = .ok (.iconst 0, 1) := by decide +kernel
theorem dL_tick_16 : decode cL_tick 16 = .ok (.ireturn, 1) := by decide +kernel
theorem dL_cut_0 : decode cL_cut 0 = .ok (.aload_n 0, 1) := by decide +kernel
theorem dL_cut_1 : decode cL_cut 1 = .ok (.iload_n 1, 1) := by decide +kernel
theorem dL_cut_2 : decode cL_cut 2 = .ok (.iload_n 2, 1) := by decide +kernel
theorem dL_cut_3 : decode cL_cut 3 = .ok (.invokevirtual 40, 3) := by decide +kernel
theorem dL_cut_6 : decode cL_cut 6 = .ok (.goto 9, 3) := by decide +kernel
theorem dL_cut_9 : decode cL_cut 9 = .ok (.astore_n 3, 1) := by decide +kernel
theorem dL_cut_10 : decode cL_cut 10 = .ok (.iconst 1, 1) := by decide +kernel
theorem dL_cut_11 : decode cL_cut 11 = .ok (.ireturn, 1) := by decide +kernel
theorem dL_cut_12 : decode cL_cut 12 = .ok (.astore_n 3, 1) := by decide +kernel
theorem dL_cut_13 : decode cL_cut 13 = .ok (.iconst 2, 1) := by decide +kernel
theorem dL_cut_14 : decode cL_cut 14 = .ok (.ireturn, 1) := by decide +kernel
theorem dL_cut_15 : decode cL_cut 15 = .ok (.iconst 0, 1) := by decide +kernel
theorem dL_cut_16 : decode cL_cut 16 = .ok (.ireturn, 1) := by decide +kernel
theorem dL_end_0 : decode cL_end 0 = .ok (.aload_n 0, 1) := by decide +kernel
theorem dL_end_1 : decode cL_end 1 = .ok (.iload_n 1, 1) := by decide +kernel
theorem dL_end_2 : decode cL_end 2 = .ok (.invokevirtual 44, 3) := by decide +kernel
theorem dL_end_5 : decode cL_end 5 = .ok (.goto 9, 3) := by decide +kernel
theorem dL_end_8 : decode cL_end 8 = .ok (.astore_n 2, 1) := by decide +kernel
theorem dL_end_9 : decode cL_end 9 = .ok (.iconst 1, 1) := by decide +kernel
theorem dL_end_10 : decode cL_end 10 = .ok (.ireturn, 1) := by decide +kernel
theorem dL_end_11 : decode cL_end 11 = .ok (.astore_n 2, 1) := by decide +kernel
theorem dL_end_12 : decode cL_end 12 = .ok (.iconst 2, 1) := by decide +kernel
theorem dL_end_13 : decode cL_end 13 = .ok (.ireturn, 1) := by decide +kernel
theorem dL_end_14 : decode cL_end 14 = .ok (.iconst 0, 1) := by decide +kernel
theorem dL_end_15 : decode cL_end 15 = .ok (.ireturn, 1) := by decide +kernel
theorem dL_askAt_0 : decode cL_askAt 0 = .ok (.aload_n 3, 1) := by decide +kernel
theorem dL_askAt_1 : decode cL_askAt 1 = .ok (.iconst 0, 1) := by decide +kernel
theorem dL_askAt_2 : decode cL_askAt 2 = .ok (.aload_n 0, 1) := by decide +kernel
theorem dL_askAt_3 : decode cL_askAt 3 = .ok (.iload_n 1, 1) := by decide +kernel
theorem dL_askAt_4 : decode cL_askAt 4 = .ok (.iload_n 2, 1) := by decide +kernel
theorem dL_askAt_5 : decode cL_askAt 5 = .ok (.invokevirtual 48, 3) := by decide +kernel
theorem dL_askAt_8 : decode cL_askAt 8 = .ok (.i2l, 1) := by decide +kernel
theorem dL_askAt_9 : decode cL_askAt 9 = .ok (.lastore, 1) := by decide +kernel
theorem dL_askAt_10 : decode cL_askAt 10 = .ok (.goto 7, 3) := by decide +kernel
theorem dL_askAt_13 : decode cL_askAt 13 = .ok (.astore 4, 2) := by decide +kernel
theorem dL_askAt_15 : decode cL_askAt 15 = .ok (.iconst 1, 1) := by decide +kernel
theorem dL_askAt_16 : decode cL_askAt 16 = .ok (.ireturn, 1) := by decide +kernel
theorem dL_askAt_17 : decode cL_askAt 17 = .ok (.iconst 0, 1) := by decide +kernel
theorem dL_askAt_18 : decode cL_askAt 18 = .ok (.ireturn, 1) := by decide +kernel
theorem dL_loanAt_0 : decode cL_loanAt 0 = .ok (.aload_n 3, 1) := by decide +kernel
theorem dL_loanAt_1 : decode cL_loanAt 1 = .ok (.iconst 0, 1) := by decide +kernel
theorem dL_loanAt_2 : decode cL_loanAt 2 = .ok (.aload_n 0, 1) := by decide +kernel
theorem dL_loanAt_3 : decode cL_loanAt 3 = .ok (.iload_n 1, 1) := by decide +kernel
theorem dL_loanAt_4 : decode cL_loanAt 4 = .ok (.iload_n 2, 1) := by decide +kernel
theorem dL_loanAt_5 : decode cL_loanAt 5 = .ok (.invokevirtual 51, 3) := by decide +kernel
theorem dL_loanAt_8 : decode cL_loanAt 8 = .ok (.i2l, 1) := by decide +kernel
theorem dL_loanAt_9 : decode cL_loanAt 9 = .ok (.lastore, 1) := by decide +kernel
theorem dL_loanAt_10 : decode cL_loanAt 10 = .ok (.goto 7, 3) := by decide +kernel
theorem dL_loanAt_13 : decode cL_loanAt 13 = .ok (.astore 4, 2) := by decide +kernel
theorem dL_loanAt_15 : decode cL_loanAt 15 = .ok (.iconst 1, 1) := by decide +kernel
theorem dL_loanAt_16 : decode cL_loanAt 16 = .ok (.ireturn, 1) := by decide +kernel
theorem dL_loanAt_17 : decode cL_loanAt 17 = .ok (.iconst 0, 1) := by decide +kernel
theorem dL_loanAt_18 : decode cL_loanAt 18 = .ok (.ireturn, 1) := by decide +kernel
theorem dL_cost_0 : decode cL_cost 0 = .ok (.aload_n 2, 1) := by decide +kernel
theorem dL_cost_1 : decode cL_cost 1 = .ok (.iconst 0, 1) := by decide +kernel
theorem dL_cost_2 : decode cL_cost 2 = .ok (.aload_n 0, 1) := by decide +kernel
theorem dL_cost_3 : decode cL_cost 3 = .ok (.iload_n 1, 1) := by decide +kernel
theorem dL_cost_4 : decode cL_cost 4 = .ok (.invokevirtual 54, 3) := by decide +kernel
theorem dL_cost_7 : decode cL_cost 7 = .ok (.i2l, 1) := by decide +kernel
theorem dL_cost_8 : decode cL_cost 8 = .ok (.lastore, 1) := by decide +kernel
theorem dL_cost_9 : decode cL_cost 9 = .ok (.goto 6, 3) := by decide +kernel
theorem dL_cost_12 : decode cL_cost 12 = .ok (.astore_n 3, 1) := by decide +kernel
theorem dL_cost_13 : decode cL_cost 13 = .ok (.iconst 1, 1) := by decide +kernel
theorem dL_cost_14 : decode cL_cost 14 = .ok (.ireturn, 1) := by decide +kernel
theorem dL_cost_15 : decode cL_cost 15 = .ok (.iconst 0, 1) := by decide +kernel
theorem dL_cost_16 : decode cL_cost 16 = .ok (.ireturn, 1) := by decide +kernel
theorem dL_hand_0 : decode cL_hand 0 = .ok (.aload_n 0, 1) := by decide +kernel
theorem dL_hand_1 : decode cL_hand 1 = .ok (.iload_n 1, 1) := by decide +kernel
theorem dL_hand_2 : decode cL_hand 2 = .ok (.iload_n 2, 1) := by decide +kernel
theorem dL_hand_3 : decode cL_hand 3 = .ok (.invokevirtual 57, 3) := by decide +kernel
theorem dL_hand_6 : decode cL_hand 6 = .ok (.goto 9, 3) := by decide +kernel
theorem dL_hand_9 : decode cL_hand 9 = .ok (.astore_n 3, 1) := by decide +kernel
theorem dL_hand_10 : decode cL_hand 10 = .ok (.iconst 1, 1) := by decide +kernel
theorem dL_hand_11 : decode cL_hand 11 = .ok (.ireturn, 1) := by decide +kernel
theorem dL_hand_12 : decode cL_hand 12 = .ok (.astore_n 3, 1) := by decide +kernel
theorem dL_hand_13 : decode cL_hand 13 = .ok (.iconst 2, 1) := by decide +kernel
theorem dL_hand_14 : decode cL_hand 14 = .ok (.ireturn, 1) := by decide +kernel
theorem dL_hand_15 : decode cL_hand 15 = .ok (.iconst 0, 1) := by decide +kernel
theorem dL_hand_16 : decode cL_hand 16 = .ok (.ireturn, 1) := by decide +kernel
theorem dL_handed_0 : decode cL_handed 0 = .ok (.aload_n 2, 1) := by decide +kernel
theorem dL_handed_1 : decode cL_handed 1 = .ok (.iconst 0, 1) := by decide +kernel
theorem dL_handed_2 : decode cL_handed 2 = .ok (.aload_n 0, 1) := by decide +kernel
theorem dL_handed_3 : decode cL_handed 3 = .ok (.iload_n 1, 1) := by decide +kernel
theorem dL_handed_4 : decode cL_handed 4 = .ok (.invokevirtual 61, 3) := by decide +kernel
theorem dL_handed_7 : decode cL_handed 7 = .ok (.i2l, 1) := by decide +kernel
theorem dL_handed_8 : decode cL_handed 8 = .ok (.lastore, 1) := by decide +kernel
theorem dL_handed_9 : decode cL_handed 9 = .ok (.goto 6, 3) := by decide +kernel
theorem dL_handed_12 : decode cL_handed 12 = .ok (.astore_n 3, 1) := by decide +kernel
theorem dL_handed_13 : decode cL_handed 13 = .ok (.iconst 1, 1) := by decide +kernel
theorem dL_handed_14 : decode cL_handed 14 = .ok (.ireturn, 1) := by decide +kernel
theorem dL_handed_15 : decode cL_handed 15 = .ok (.iconst 0, 1) := by decide +kernel
theorem dL_handed_16 : decode cL_handed 16 = .ok (.ireturn, 1) := by decide +kernel
theorem dL_count_0 : decode cL_count 0 = .ok (.aload_n 2, 1) := by decide +kernel
theorem dL_count_1 : decode cL_count 1 = .ok (.iconst 0, 1) := by decide +kernel
theorem dL_count_2 : decode cL_count 2 = .ok (.aload_n 0, 1) := by decide +kernel
theorem dL_count_3 : decode cL_count 3 = .ok (.iload_n 1, 1) := by decide +kernel
theorem dL_count_4 : decode cL_count 4 = .ok (.invokevirtual 64, 3) := by decide +kernel
theorem dL_count_7 : decode cL_count 7 = .ok (.i2l, 1) := by decide +kernel
theorem dL_count_8 : decode cL_count 8 = .ok (.lastore, 1) := by decide +kernel
theorem dL_count_9 : decode cL_count 9 = .ok (.goto 6, 3) := by decide +kernel
theorem dL_count_12 : decode cL_count 12 = .ok (.astore_n 3, 1) := by decide +kernel
theorem dL_count_13 : decode cL_count 13 = .ok (.iconst 1, 1) := by decide +kernel
theorem dL_count_14 : decode cL_count 14 = .ok (.ireturn, 1) := by decide +kernel
theorem dL_count_15 : decode cL_count 15 = .ok (.iconst 0, 1) := by decide +kernel
theorem dL_count_16 : decode cL_count 16 = .ok (.ireturn, 1) := by decide +kernel
theorem dL_law_0 : decode cL_law 0 = .ok (.new 8, 3) := by decide +kernel
theorem dL_law_3 : decode cL_law 3 = .ok (.dup, 1) := by decide +kernel
theorem dL_law_4 : decode cL_law 4 = .ok (.invokespecial 67, 3) := by decide +kernel
theorem dL_law_7 : decode cL_law 7 = .ok (.astore_n 1, 1) := by decide +kernel
theorem dL_law_8 : decode cL_law 8 = .ok (.new 68, 3) := by decide +kernel
theorem dL_law_11 : decode cL_law 11 = .ok (.dup, 1) := by decide +kernel
theorem dL_law_12 : decode cL_law 12 = .ok (.invokespecial 70, 3) := by decide +kernel
theorem dL_law_15 : decode cL_law 15 = .ok (.astore_n 2, 1) := by decide +kernel
theorem dL_law_16 : decode cL_law 16 = .ok (.iconst 1, 1) := by decide +kernel
theorem dL_law_17 : decode cL_law 17 = .ok (.newarray .long, 2) := by decide +kernel
theorem dL_law_19 : decode cL_law 19 = .ok (.astore_n 3, 1) := by decide +kernel
theorem dL_law_20 : decode cL_law 20 = .ok (.iconst 0, 1) := by decide +kernel
theorem dL_law_21 : decode cL_law 21 = .ok (.istore 4, 2) := by decide +kernel
theorem dL_law_23 : decode cL_law 23 = .ok (.iload 4, 2) := by decide +kernel
theorem dL_law_25 : decode cL_law 25 = .ok (.aload_n 0, 1) := by decide +kernel
theorem dL_law_26 : decode cL_law 26 = .ok (.arraylength, 1) := by decide +kernel
theorem dL_law_27 : decode cL_law 27 = .ok (.bipush 7, 2) := by decide +kernel
theorem dL_law_29 : decode cL_law 29 = .ok (.isub, 1) := by decide +kernel
theorem dL_law_30 : decode cL_law 30 = .ok (.if_icmp .gt 1063, 3) := by decide +kernel
theorem dL_law_33 : decode cL_law 33 = .ok (.aload_n 0, 1) := by decide +kernel
theorem dL_law_34 : decode cL_law 34 = .ok (.iload 4, 2) := by decide +kernel
theorem dL_law_36 : decode cL_law 36 = .ok (.iaload, 1) := by decide +kernel
theorem dL_law_37 : decode cL_law 37 = .ok (.bipush 15, 2) := by decide +kernel
theorem dL_law_39 : decode cL_law 39 = .ok (.iand, 1) := by decide +kernel
theorem dL_law_40 : decode cL_law 40 = .ok (.tableswitch 1047 0 14 #[76, 144, 262, 342, 446, 514, 570, 634, 670, 738, 806, 862, 887, 935, 991], 76) := by decide +kernel
theorem dL_law_116 : decode cL_law 116 = .ok (.aload_n 1, 1) := by decide +kernel
theorem dL_law_117 : decode cL_law 117 = .ok (.aload_n 0, 1) := by decide +kernel
theorem dL_law_118 : decode cL_law 118 = .ok (.iload 4, 2) := by decide +kernel
theorem dL_law_120 : decode cL_law 120 = .ok (.iconst 1, 1) := by decide +kernel
theorem dL_law_121 : decode cL_law 121 = .ok (.iadd, 1) := by decide +kernel
theorem dL_law_122 : decode cL_law 122 = .ok (.iaload, 1) := by decide +kernel
theorem dL_law_123 : decode cL_law 123 = .ok (.aload_n 0, 1) := by decide +kernel
theorem dL_law_124 : decode cL_law 124 = .ok (.iload 4, 2) := by decide +kernel
theorem dL_law_126 : decode cL_law 126 = .ok (.iconst 2, 1) := by decide +kernel
theorem dL_law_127 : decode cL_law 127 = .ok (.iadd, 1) := by decide +kernel
theorem dL_law_128 : decode cL_law 128 = .ok (.iaload, 1) := by decide +kernel
theorem dL_law_129 : decode cL_law 129 = .ok (.aload_n 3, 1) := by decide +kernel
theorem dL_law_130 : decode cL_law 130 = .ok (.invokestatic 71, 3) := by decide +kernel
theorem dL_law_133 : decode cL_law 133 = .ok (.istore 5, 2) := by decide +kernel
theorem dL_law_135 : decode cL_law 135 = .ok (.aload_n 2, 1) := by decide +kernel
theorem dL_law_136 : decode cL_law 136 = .ok (.aload_n 0, 1) := by decide +kernel
theorem dL_law_137 : decode cL_law 137 = .ok (.iload 4, 2) := by decide +kernel
theorem dL_law_139 : decode cL_law 139 = .ok (.iconst 1, 1) := by decide +kernel
theorem dL_law_140 : decode cL_law 140 = .ok (.iadd, 1) := by decide +kernel
theorem dL_law_141 : decode cL_law 141 = .ok (.iaload, 1) := by decide +kernel
theorem dL_law_142 : decode cL_law 142 = .ok (.aload_n 0, 1) := by decide +kernel
theorem dL_law_143 : decode cL_law 143 = .ok (.iload 4, 2) := by decide +kernel
theorem dL_law_145 : decode cL_law 145 = .ok (.iconst 2, 1) := by decide +kernel
theorem dL_law_146 : decode cL_law 146 = .ok (.iadd, 1) := by decide +kernel
theorem dL_law_147 : decode cL_law 147 = .ok (.iaload, 1) := by decide +kernel
theorem dL_law_148 : decode cL_law 148 = .ok (.invokevirtual 76, 3) := by decide +kernel
theorem dL_law_151 : decode cL_law 151 = .ok (.istore 6, 2) := by decide +kernel
theorem dL_law_153 : decode cL_law 153 = .ok (.aload_n 2, 1) := by decide +kernel
theorem dL_law_154 : decode cL_law 154 = .ok (.invokevirtual 77, 3) := by decide +kernel
theorem dL_law_157 : decode cL_law 157 = .ok (.iload 5, 2) := by decide +kernel
theorem dL_law_159 : decode cL_law 159 = .ok (.if_icmp .eq 5, 3) := by decide +kernel
theorem dL_law_162 : decode cL_law 162 = .ok (.iconst 0, 1) := by decide +kernel
theorem dL_law_163 : decode cL_law 163 = .ok (.ireturn, 1) := by decide +kernel
theorem dL_law_164 : decode cL_law 164 = .ok (.iload 5, 2) := by decide +kernel
theorem dL_law_166 : decode cL_law 166 = .ok (.ifCond .ne 15, 3) := by decide +kernel
theorem dL_law_169 : decode cL_law 169 = .ok (.aload_n 3, 1) := by decide +kernel
theorem dL_law_170 : decode cL_law 170 = .ok (.iconst 0, 1) := by decide +kernel
theorem dL_law_171 : decode cL_law 171 = .ok (.laload, 1) := by decide +kernel
theorem dL_law_172 : decode cL_law 172 = .ok (.iload 6, 2) := by decide +kernel
theorem dL_law_174 : decode cL_law 174 = .ok (.i2l, 1) := by decide +kernel
theorem dL_law_175 : decode cL_law 175 = .ok (.lcmp, 1) := by decide +kernel
theorem dL_law_176 : decode cL_law 176 = .ok (.ifCond .eq 5, 3) := by decide +kernel
theorem dL_law_179 : decode cL_law 179 = .ok (.iconst 0, 1) := by decide +kernel
theorem dL_law_180 : decode cL_law 180 = .ok (.ireturn, 1) := by decide +kernel
theorem dL_law_181 : decode cL_law 181 = .ok (.goto 906, 3) := by decide +kernel
theorem dL_law_184 : decode cL_law 184 = .ok (.aload_n 1, 1) := by decide +kernel
theorem dL_law_185 : decode cL_law 185 = .ok (.aload_n 0, 1) := by decide +kernel
theorem dL_law_186 : decode cL_law 186 = .ok (.iload 4, 2) := by decide +kernel
theorem dL_law_188 : decode cL_law 188 = .ok (.iconst 1, 1) := by decide +kernel
theorem dL_law_189 : decode cL_law 189 = .ok (.iadd, 1) := by decide +kernel
theorem dL_law_190 : decode cL_law 190 = .ok (.iaload, 1) := by decide +kernel
theorem dL_law_191 : decode cL_law 191 = .ok (.aload_n 0, 1) := by decide +kernel
theorem dL_law_192 : decode cL_law 192 = .ok (.iload 4, 2) := by decide +kernel
theorem dL_law_194 : decode cL_law 194 = .ok (.iconst 2, 1) := by decide +kernel
theorem dL_law_195 : decode cL_law 195 = .ok (.iadd, 1) := by decide +kernel
theorem dL_law_196 : decode cL_law 196 = .ok (.iaload, 1) := by decide +kernel
theorem dL_law_197 : decode cL_law 197 = .ok (.aload_n 0, 1) := by decide +kernel
theorem dL_law_198 : decode cL_law 198 = .ok (.iload 4, 2) := by decide +kernel
theorem dL_law_200 : decode cL_law 200 = .ok (.iconst 3, 1) := by decide +kernel
theorem dL_law_201 : decode cL_law 201 = .ok (.iadd, 1) := by decide +kernel
theorem dL_law_202 : decode cL_law 202 = .ok (.iaload, 1) := by decide +kernel
theorem dL_law_203 : decode cL_law 203 = .ok (.aload_n 0, 1) := by decide +kernel
theorem dL_law_204 : decode cL_law 204 = .ok (.iload 4, 2) := by decide +kernel
theorem dL_law_206 : decode cL_law 206 = .ok (.iconst 4, 1) := by decide +kernel
theorem dL_law_207 : decode cL_law 207 = .ok (.iadd, 1) := by decide +kernel
theorem dL_law_208 : decode cL_law 208 = .ok (.iaload, 1) := by decide +kernel
theorem dL_law_209 : decode cL_law 209 = .ok (.aload_n 0, 1) := by decide +kernel
theorem dL_law_210 : decode cL_law 210 = .ok (.iload 4, 2) := by decide +kernel
theorem dL_law_212 : decode cL_law 212 = .ok (.iconst 5, 1) := by decide +kernel
theorem dL_law_213 : decode cL_law 213 = .ok (.iadd, 1) := by decide +kernel
theorem dL_law_214 : decode cL_law 214 = .ok (.iaload, 1) := by decide +kernel
theorem dL_law_215 : decode cL_law 215 = .ok (.aload_n 0, 1) := by decide +kernel
theorem dL_law_216 : decode cL_law 216 = .ok (.iload 4, 2) := by decide +kernel
theorem dL_law_218 : decode cL_law 218 = .ok (.bipush 6, 2) := by decide +kernel
theorem dL_law_220 : decode cL_law 220 = .ok (.iadd, 1) := by decide +kernel
theorem dL_law_221 : decode cL_law 221 = .ok (.iaload, 1) := by decide +kernel
theorem dL_law_222 : decode cL_law 222 = .ok (.aload_n 3, 1) := by decide +kernel
theorem dL_law_223 : decode cL_law 223 = .ok (.invokestatic 81, 3) := by decide +kernel
theorem dL_law_226 : decode cL_law 226 = .ok (.istore 5, 2) := by decide +kernel
theorem dL_law_228 : decode cL_law 228 = .ok (.aload_n 2, 1) := by decide +kernel
theorem dL_law_229 : decode cL_law 229 = .ok (.aload_n 0, 1) := by decide +kernel
theorem dL_law_230 : decode cL_law 230 = .ok (.iload 4, 2) := by decide +kernel
theorem dL_law_232 : decode cL_law 232 = .ok (.iconst 1, 1) := by decide +kernel
theorem dL_law_233 : decode cL_law 233 = .ok (.iadd, 1) := by decide +kernel
theorem dL_law_234 : decode cL_law 234 = .ok (.iaload, 1) := by decide +kernel
theorem dL_law_235 : decode cL_law 235 = .ok (.aload_n 0, 1) := by decide +kernel
theorem dL_law_236 : decode cL_law 236 = .ok (.iload 4, 2) := by decide +kernel
theorem dL_law_238 : decode cL_law 238 = .ok (.iconst 2, 1) := by decide +kernel
theorem dL_law_239 : decode cL_law 239 = .ok (.iadd, 1) := by decide +kernel
theorem dL_law_240 : decode cL_law 240 = .ok (.iaload, 1) := by decide +kernel
theorem dL_law_241 : decode cL_law 241 = .ok (.aload_n 0, 1) := by decide +kernel
theorem dL_law_242 : decode cL_law 242 = .ok (.iload 4, 2) := by decide +kernel
theorem dL_law_244 : decode cL_law 244 = .ok (.iconst 3, 1) := by decide +kernel
theorem dL_law_245 : decode cL_law 245 = .ok (.iadd, 1) := by decide +kernel
theorem dL_law_246 : decode cL_law 246 = .ok (.iaload, 1) := by decide +kernel
theorem dL_law_247 : decode cL_law 247 = .ok (.aload_n 0, 1) := by decide +kernel
theorem dL_law_248 : decode cL_law 248 = .ok (.iload 4, 2) := by decide +kernel
theorem dL_law_250 : decode cL_law 250 = .ok (.iconst 4, 1) := by decide +kernel
theorem dL_law_251 : decode cL_law 251 = .ok (.iadd, 1) := by decide +kernel
theorem dL_law_252 : decode cL_law 252 = .ok (.iaload, 1) := by decide +kernel
theorem dL_law_253 : decode cL_law 253 = .ok (.aload_n 0, 1) := by decide +kernel
theorem dL_law_254 : decode cL_law 254 = .ok (.iload 4, 2) := by decide +kernel
theorem dL_law_256 : decode cL_law 256 = .ok (.iconst 5, 1) := by decide +kernel
theorem dL_law_257 : decode cL_law 257 = .ok (.iadd, 1) := by decide +kernel
theorem dL_law_258 : decode cL_law 258 = .ok (.iaload, 1) := by decide +kernel
theorem dL_law_259 : decode cL_law 259 = .ok (.aload_n 0, 1) := by decide +kernel
theorem dL_law_260 : decode cL_law 260 = .ok (.iload 4, 2) := by decide +kernel
theorem dL_law_262 : decode cL_law 262 = .ok (.bipush 6, 2) := by decide +kernel
theorem dL_law_264 : decode cL_law 264 = .ok (.iadd, 1) := by decide +kernel
theorem dL_law_265 : decode cL_law 265 = .ok (.iaload, 1) := by decide +kernel
theorem dL_law_266 : decode cL_law 266 = .ok (.invokevirtual 84, 3) := by decide +kernel
theorem dL_law_269 : decode cL_law 269 = .ok (.istore 6, 2) := by decide +kernel
theorem dL_law_271 : decode cL_law 271 = .ok (.aload_n 2, 1) := by decide +kernel
theorem dL_law_272 : decode cL_law 272 = .ok (.invokevirtual 77, 3) := by decide +kernel
theorem dL_law_275 : decode cL_law 275 = .ok (.iload 5, 2) := by decide +kernel
theorem dL_law_277 : decode cL_law 277 = .ok (.if_icmp .eq 5, 3) := by decide +kernel
theorem dL_law_280 : decode cL_law 280 = .ok (.iconst 0, 1) := by decide +kernel
theorem dL_law_281 : decode cL_law 281 = .ok (.ireturn, 1) := by decide +kernel
theorem dL_law_282 : decode cL_law 282 = .ok (.iload 5, 2) := by decide +kernel
theorem dL_law_284 : decode cL_law 284 = .ok (.ifCond .ne 15, 3) := by decide +kernel
theorem dL_law_287 : decode cL_law 287 = .ok (.aload_n 3, 1) := by decide +kernel
theorem dL_law_288 : decode cL_law 288 = .ok (.iconst 0, 1) := by decide +kernel
theorem dL_law_289 : decode cL_law 289 = .ok (.laload, 1) := by decide +kernel
theorem dL_law_290 : decode cL_law 290 = .ok (.iload 6, 2) := by decide +kernel
theorem dL_law_292 : decode cL_law 292 = .ok (.i2l, 1) := by decide +kernel
