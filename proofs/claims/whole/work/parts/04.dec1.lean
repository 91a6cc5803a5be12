theorem dA_init_0 : decode cA_init 0 = .ok (.aload_n 0, 1) := by decide +kernel
theorem dA_init_1 : decode cA_init 1 = .ok (.invokespecial 1, 3) := by decide +kernel
theorem dA_init_4 : decode cA_init 4 = .ok (.aload_n 0, 1) := by decide +kernel
theorem dA_init_5 : decode cA_init 5 = .ok (.new 7, 3) := by decide +kernel
theorem dA_init_8 : decode cA_init 8 = .ok (.dup, 1) := by decide +kernel
theorem dA_init_9 : decode cA_init 9 = .ok (.invokespecial 9, 3) := by decide +kernel
theorem dA_init_12 : decode cA_init 12 = .ok (.putfield 10, 3) := by decide +kernel
theorem dA_init_15 : decode cA_init 15 = .ok (.aload_n 0, 1) := by decide +kernel
theorem dA_init_16 : decode cA_init 16 = .ok (.new 16, 3) := by decide +kernel
theorem dA_init_19 : decode cA_init 19 = .ok (.dup, 1) := by decide +kernel
theorem dA_init_20 : decode cA_init 20 = .ok (.invokespecial 18, 3) := by decide +kernel
theorem dA_init_23 : decode cA_init 23 = .ok (.putfield 19, 3) := by decide +kernel
theorem dA_init_26 : decode cA_init 26 = .ok (.aload_n 0, 1) := by decide +kernel
theorem dA_init_27 : decode cA_init 27 = .ok (.new 23, 3) := by decide +kernel
theorem dA_init_30 : decode cA_init 30 = .ok (.dup, 1) := by decide +kernel
theorem dA_init_31 : decode cA_init 31 = .ok (.invokespecial 25, 3) := by decide +kernel
theorem dA_init_34 : decode cA_init 34 = .ok (.putfield 26, 3) := by decide +kernel
theorem dA_init_37 : decode cA_init 37 = .ok (.aload_n 0, 1) := by decide +kernel
theorem dA_init_38 : decode cA_init 38 = .ok (.new 30, 3) := by decide +kernel
theorem dA_init_41 : decode cA_init 41 = .ok (.dup, 1) := by decide +kernel
theorem dA_init_42 : decode cA_init 42 = .ok (.invokespecial 32, 3) := by decide +kernel
theorem dA_init_45 : decode cA_init 45 = .ok (.putfield 33, 3) := by decide +kernel
theorem dA_init_48 : decode cA_init 48 = .ok (.aload_n 0, 1) := by decide +kernel
theorem dA_init_49 : decode cA_init 49 = .ok (.new 37, 3) := by decide +kernel
theorem dA_init_52 : decode cA_init 52 = .ok (.dup, 1) := by decide +kernel
theorem dA_init_53 : decode cA_init 53 = .ok (.invokespecial 39, 3) := by decide +kernel
theorem dA_init_56 : decode cA_init 56 = .ok (.putfield 40, 3) := by decide +kernel
theorem dA_init_59 : decode cA_init 59 = .ok (.aload_n 0, 1) := by decide +kernel
theorem dA_init_60 : decode cA_init 60 = .ok (.bipush 100, 2) := by decide +kernel
theorem dA_init_62 : decode cA_init 62 = .ok (.newarray .int, 2) := by decide +kernel
theorem dA_init_64 : decode cA_init 64 = .ok (.putfield 44, 3) := by decide +kernel
theorem dA_init_67 : decode cA_init 67 = .ok (.aload_n 0, 1) := by decide +kernel
theorem dA_init_68 : decode cA_init 68 = .ok (.getfield 44, 3) := by decide +kernel
theorem dA_init_71 : decode cA_init 71 = .ok (.iconst (-1), 1) := by decide +kernel
theorem dA_init_72 : decode cA_init 72 = .ok (.invokestatic 48, 3) := by decide +kernel
theorem dA_init_75 : decode cA_init 75 = .ok (.return_, 1) := by decide +kernel
theorem dA_house_0 : decode cA_house 0 = .ok (.iload_n 1, 1) := by decide +kernel
theorem dA_house_1 : decode cA_house 1 = .ok (.iconst 0, 1) := by decide +kernel
theorem dA_house_2 : decode cA_house 2 = .ok (.bipush 9, 2) := by decide +kernel
theorem dA_house_4 : decode cA_house 4 = .ok (.invokestatic 54, 3) := by decide +kernel
theorem dA_house_7 : decode cA_house 7 = .ok (.ifCond .eq 14, 3) := by decide +kernel
theorem dA_house_10 : decode cA_house 10 = .ok (.iload_n 2, 1) := by decide +kernel
theorem dA_house_11 : decode cA_house 11 = .ok (.iconst 0, 1) := by decide +kernel
theorem dA_house_12 : decode cA_house 12 = .ok (.sipush 1000, 3) := by decide +kernel
theorem dA_house_15 : decode cA_house 15 = .ok (.invokestatic 54, 3) := by decide +kernel
theorem dA_house_18 : decode cA_house 18 = .ok (.ifCond .ne 13, 3) := by decide +kernel
theorem dA_house_21 : decode cA_house 21 = .ok (.new 58, 3) := by decide +kernel
theorem dA_house_24 : decode cA_house 24 = .ok (.dup, 1) := by decide +kernel
theorem dA_house_25 : decode cA_house 25 = .ok (.ldc 60, 2) := by decide +kernel
theorem dA_house_27 : decode cA_house 27 = .ok (.invokespecial 62, 3) := by decide +kernel
theorem dA_house_30 : decode cA_house 30 = .ok (.athrow, 1) := by decide +kernel
theorem dA_house_31 : decode cA_house 31 = .ok (.aload_n 0, 1) := by decide +kernel
theorem dA_house_32 : decode cA_house 32 = .ok (.getfield 10, 3) := by decide +kernel
theorem dA_house_35 : decode cA_house 35 = .ok (.invokevirtual 65, 3) := by decide +kernel
theorem dA_house_38 : decode cA_house 38 = .ok (.ifCond .eq 13, 3) := by decide +kernel
theorem dA_house_41 : decode cA_house 41 = .ok (.new 69, 3) := by decide +kernel
theorem dA_house_44 : decode cA_house 44 = .ok (.dup, 1) := by decide +kernel
theorem dA_house_45 : decode cA_house 45 = .ok (.ldc 71, 2) := by decide +kernel
theorem dA_house_47 : decode cA_house 47 = .ok (.invokespecial 73, 3) := by decide +kernel
theorem dA_house_50 : decode cA_house 50 = .ok (.athrow, 1) := by decide +kernel
theorem dA_house_51 : decode cA_house 51 = .ok (.aload_n 0, 1) := by decide +kernel
theorem dA_house_52 : decode cA_house 52 = .ok (.getfield 10, 3) := by decide +kernel
theorem dA_house_55 : decode cA_house 55 = .ok (.iload_n 1, 1) := by decide +kernel
theorem dA_house_56 : decode cA_house 56 = .ok (.iload_n 2, 1) := by decide +kernel
theorem dA_house_57 : decode cA_house 57 = .ok (.invokevirtual 74, 3) := by decide +kernel
theorem dA_house_60 : decode cA_house 60 = .ok (.ireturn, 1) := by decide +kernel
theorem dA_agree_0 : decode cA_agree 0 = .ok (.aload_n 0, 1) := by decide +kernel
theorem dA_agree_1 : decode cA_agree 1 = .ok (.getfield 10, 3) := by decide +kernel
theorem dA_agree_4 : decode cA_agree 4 = .ok (.iload_n 1, 1) := by decide +kernel
theorem dA_agree_5 : decode cA_agree 5 = .ok (.invokevirtual 78, 3) := by decide +kernel
theorem dA_agree_8 : decode cA_agree 8 = .ok (.ifCond .eq 13, 3) := by decide +kernel
theorem dA_agree_11 : decode cA_agree 11 = .ok (.iload_n 2, 1) := by decide +kernel
theorem dA_agree_12 : decode cA_agree 12 = .ok (.iconst 0, 1) := by decide +kernel
theorem dA_agree_13 : decode cA_agree 13 = .ok (.bipush 9, 2) := by decide +kernel
theorem dA_agree_15 : decode cA_agree 15 = .ok (.invokestatic 54, 3) := by decide +kernel
theorem dA_agree_18 : decode cA_agree 18 = .ok (.ifCond .ne 13, 3) := by decide +kernel
theorem dA_agree_21 : decode cA_agree 21 = .ok (.new 82, 3) := by decide +kernel
theorem dA_agree_24 : decode cA_agree 24 = .ok (.dup, 1) := by decide +kernel
theorem dA_agree_25 : decode cA_agree 25 = .ok (.ldc 84, 2) := by decide +kernel
theorem dA_agree_27 : decode cA_agree 27 = .ok (.invokespecial 86, 3) := by decide +kernel
theorem dA_agree_30 : decode cA_agree 30 = .ok (.athrow, 1) := by decide +kernel
theorem dA_agree_31 : decode cA_agree 31 = .ok (.iload_n 3, 1) := by decide +kernel
theorem dA_agree_32 : decode cA_agree 32 = .ok (.iload 4, 2) := by decide +kernel
theorem dA_agree_34 : decode cA_agree 34 = .ok (.invokestatic 87, 3) := by decide +kernel
theorem dA_agree_37 : decode cA_agree 37 = .ok (.ifCond .eq 22, 3) := by decide +kernel
theorem dA_agree_40 : decode cA_agree 40 = .ok (.iload 5, 2) := by decide +kernel
theorem dA_agree_42 : decode cA_agree 42 = .ok (.invokestatic 91, 3) := by decide +kernel
theorem dA_agree_45 : decode cA_agree 45 = .ok (.ifCond .eq 14, 3) := by decide +kernel
theorem dA_agree_48 : decode cA_agree 48 = .ok (.iload 6, 2) := by decide +kernel
theorem dA_agree_50 : decode cA_agree 50 = .ok (.iconst 1, 1) := by decide +kernel
theorem dA_agree_51 : decode cA_agree 51 = .ok (.bipush 20, 2) := by decide +kernel
theorem dA_agree_53 : decode cA_agree 53 = .ok (.invokestatic 54, 3) := by decide +kernel
theorem dA_agree_56 : decode cA_agree 56 = .ok (.ifCond .ne 13, 3) := by decide +kernel
theorem dA_agree_59 : decode cA_agree 59 = .ok (.new 58, 3) := by decide +kernel
theorem dA_agree_62 : decode cA_agree 62 = .ok (.dup, 1) := by decide +kernel
theorem dA_agree_63 : decode cA_agree 63 = .ok (.ldc 94, 2) := by decide +kernel
theorem dA_agree_65 : decode cA_agree 65 = .ok (.invokespecial 62, 3) := by decide +kernel
theorem dA_agree_68 : decode cA_agree 68 = .ok (.athrow, 1) := by decide +kernel
theorem dA_agree_69 : decode cA_agree 69 = .ok (.aload_n 0, 1) := by decide +kernel
theorem dA_agree_70 : decode cA_agree 70 = .ok (.getfield 19, 3) := by decide +kernel
theorem dA_agree_73 : decode cA_agree 73 = .ok (.iload_n 1, 1) := by decide +kernel
theorem dA_agree_74 : decode cA_agree 74 = .ok (.iload_n 2, 1) := by decide +kernel
theorem dA_agree_75 : decode cA_agree 75 = .ok (.iload_n 3, 1) := by decide +kernel
theorem dA_agree_76 : decode cA_agree 76 = .ok (.iload 4, 2) := by decide +kernel
theorem dA_agree_78 : decode cA_agree 78 = .ok (.invokevirtual 96, 3) := by decide +kernel
theorem dA_agree_81 : decode cA_agree 81 = .ok (.ifCond .eq 13, 3) := by decide +kernel
theorem dA_agree_84 : decode cA_agree 84 = .ok (.new 100, 3) := by decide +kernel
theorem dA_agree_87 : decode cA_agree 87 = .ok (.dup, 1) := by decide +kernel
theorem dA_agree_88 : decode cA_agree 88 = .ok (.ldc 102, 2) := by decide +kernel
theorem dA_agree_90 : decode cA_agree 90 = .ok (.invokespecial 104, 3) := by decide +kernel
theorem dA_agree_93 : decode cA_agree 93 = .ok (.athrow, 1) := by decide +kernel
theorem dA_agree_94 : decode cA_agree 94 = .ok (.aload_n 0, 1) := by decide +kernel
theorem dA_agree_95 : decode cA_agree 95 = .ok (.getfield 19, 3) := by decide +kernel
theorem dA_agree_98 : decode cA_agree 98 = .ok (.invokevirtual 105, 3) := by decide +kernel
theorem dA_agree_101 : decode cA_agree 101 = .ok (.ifCond .eq 13, 3) := by decide +kernel
theorem dA_agree_104 : decode cA_agree 104 = .ok (.new 69, 3) := by decide +kernel
theorem dA_agree_107 : decode cA_agree 107 = .ok (.dup, 1) := by decide +kernel
theorem dA_agree_108 : decode cA_agree 108 = .ok (.ldc 106, 2) := by decide +kernel
theorem dA_agree_110 : decode cA_agree 110 = .ok (.invokespecial 73, 3) := by decide +kernel
theorem dA_agree_113 : decode cA_agree 113 = .ok (.athrow, 1) := by decide +kernel
theorem dA_agree_114 : decode cA_agree 114 = .ok (.aload_n 0, 1) := by decide +kernel
theorem dA_agree_115 : decode cA_agree 115 = .ok (.getfield 19, 3) := by decide +kernel
theorem dA_agree_118 : decode cA_agree 118 = .ok (.iload_n 1, 1) := by decide +kernel
theorem dA_agree_119 : decode cA_agree 119 = .ok (.iload_n 2, 1) := by decide +kernel
theorem dA_agree_120 : decode cA_agree 120 = .ok (.iload_n 3, 1) := by decide +kernel
theorem dA_agree_121 : decode cA_agree 121 = .ok (.iload 4, 2) := by decide +kernel
theorem dA_agree_123 : decode cA_agree 123 = .ok (.iload 5, 2) := by decide +kernel
theorem dA_agree_125 : decode cA_agree 125 = .ok (.iload 6, 2) := by decide +kernel
theorem dA_agree_127 : decode cA_agree 127 = .ok (.invokevirtual 108, 3) := by decide +kernel
theorem dA_agree_130 : decode cA_agree 130 = .ok (.ireturn, 1) := by decide +kernel
theorem dA_ask_0 : decode cA_ask 0 = .ok (.iload_n 1, 1) := by decide +kernel
theorem dA_ask_1 : decode cA_ask 1 = .ok (.iconst 0, 1) := by decide +kernel
theorem dA_ask_2 : decode cA_ask 2 = .ok (.bipush 9, 2) := by decide +kernel
theorem dA_ask_4 : decode cA_ask 4 = .ok (.invokestatic 54, 3) := by decide +kernel
theorem dA_ask_7 : decode cA_ask 7 = .ok (.ifCond .ne 13, 3) := by decide +kernel
theorem dA_ask_10 : decode cA_ask 10 = .ok (.new 82, 3) := by decide +kernel
theorem dA_ask_13 : decode cA_ask 13 = .ok (.dup, 1) := by decide +kernel
theorem dA_ask_14 : decode cA_ask 14 = .ok (.ldc 111, 2) := by decide +kernel
theorem dA_ask_16 : decode cA_ask 16 = .ok (.invokespecial 86, 3) := by decide +kernel
theorem dA_ask_19 : decode cA_ask 19 = .ok (.athrow, 1) := by decide +kernel
theorem dA_ask_20 : decode cA_ask 20 = .ok (.iload_n 2, 1) := by decide +kernel
theorem dA_ask_21 : decode cA_ask 21 = .ok (.iconst 1, 1) := by decide +kernel
theorem dA_ask_22 : decode cA_ask 22 = .ok (.bipush 20, 2) := by decide +kernel
theorem dA_ask_24 : decode cA_ask 24 = .ok (.invokestatic 54, 3) := by decide +kernel
theorem dA_ask_27 : decode cA_ask 27 = .ok (.ifCond .eq 14, 3) := by decide +kernel
theorem dA_ask_30 : decode cA_ask 30 = .ok (.iload_n 3, 1) := by decide +kernel
theorem dA_ask_31 : decode cA_ask 31 = .ok (.iconst 1, 1) := by decide +kernel
theorem dA_ask_32 : decode cA_ask 32 = .ok (.sipush 500, 3) := by decide +kernel
theorem dA_ask_35 : decode cA_ask 35 = .ok (.invokestatic 54, 3) := by decide +kernel
theorem dA_ask_38 : decode cA_ask 38 = .ok (.ifCond .ne 13, 3) := by decide +kernel
theorem dA_ask_41 : decode cA_ask 41 = .ok (.new 58, 3) := by decide +kernel
theorem dA_ask_44 : decode cA_ask 44 = .ok (.dup, 1) := by decide +kernel
theorem dA_ask_45 : decode cA_ask 45 = .ok (.ldc 113, 2) := by decide +kernel
theorem dA_ask_47 : decode cA_ask 47 = .ok (.invokespecial 62, 3) := by decide +kernel
theorem dA_ask_50 : decode cA_ask 50 = .ok (.athrow, 1) := by decide +kernel
theorem dA_ask_51 : decode cA_ask 51 = .ok (.aload_n 0, 1) := by decide +kernel
theorem dA_ask_52 : decode cA_ask 52 = .ok (.getfield 26, 3) := by decide +kernel
theorem dA_ask_55 : decode cA_ask 55 = .ok (.invokevirtual 115, 3) := by decide +kernel
theorem dA_ask_58 : decode cA_ask 58 = .ok (.ifCond .eq 13, 3) := by decide +kernel
theorem dA_ask_61 : decode cA_ask 61 = .ok (.new 69, 3) := by decide +kernel
theorem dA_ask_64 : decode cA_ask 64 = .ok (.dup, 1) := by decide +kernel
theorem dA_ask_65 : decode cA_ask 65 = .ok (.ldc 116, 2) := by decide +kernel
theorem dA_ask_67 : decode cA_ask 67 = .ok (.invokespecial 73, 3) := by decide +kernel
theorem dA_ask_70 : decode cA_ask 70 = .ok (.athrow, 1) := by decide +kernel
theorem dA_ask_71 : decode cA_ask 71 = .ok (.aload_n 0, 1) := by decide +kernel
theorem dA_ask_72 : decode cA_ask 72 = .ok (.getfield 26, 3) := by decide +kernel
theorem dA_ask_75 : decode cA_ask 75 = .ok (.iload_n 1, 1) := by decide +kernel
theorem dA_ask_76 : decode cA_ask 76 = .ok (.iload_n 2, 1) := by decide +kernel
theorem dA_ask_77 : decode cA_ask 77 = .ok (.iload_n 3, 1) := by decide +kernel
theorem dA_ask_78 : decode cA_ask 78 = .ok (.invokevirtual 118, 3) := by decide +kernel
theorem dA_ask_81 : decode cA_ask 81 = .ok (.istore 4, 2) := by decide +kernel
theorem dA_ask_83 : decode cA_ask 83 = .ok (.aload_n 0, 1) := by decide +kernel
theorem dA_ask_84 : decode cA_ask 84 = .ok (.iload 4, 2) := by decide +kernel
theorem dA_ask_86 : decode cA_ask 86 = .ok (.invokevirtual 121, 3) := by decide +kernel
theorem dA_ask_89 : decode cA_ask 89 = .ok (.iload 4, 2) := by decide +kernel
theorem dA_ask_91 : decode cA_ask 91 = .ok (.ireturn, 1) := by decide +kernel
theorem dA_message_0 : decode cA_message 0 = .ok (.aload_n 0, 1) := by decide +kernel
theorem dA_message_1 : decode cA_message 1 = .ok (.getfield 26, 3) := by decide +kernel
theorem dA_message_4 : decode cA_message 4 = .ok (.iload_n 1, 1) := by decide +kernel
theorem dA_message_5 : decode cA_message 5 = .ok (.invokevirtual 125, 3) := by decide +kernel
theorem dA_message_8 : decode cA_message 8 = .ok (.ifCond .eq 14, 3) := by decide +kernel
theorem dA_message_11 : decode cA_message 11 = .ok (.aload_n 0, 1) := by decide +kernel
theorem dA_message_12 : decode cA_message 12 = .ok (.getfield 10, 3) := by decide +kernel
theorem dA_message_15 : decode cA_message 15 = .ok (.iload_n 2, 1) := by decide +kernel
theorem dA_message_16 : decode cA_message 16 = .ok (.invokevirtual 78, 3) := by decide +kernel
theorem dA_message_19 : decode cA_message 19 = .ok (.ifCond .ne 13, 3) := by decide +kernel
theorem dA_message_22 : decode cA_message 22 = .ok (.new 82, 3) := by decide +kernel
theorem dA_message_25 : decode cA_message 25 = .ok (.dup, 1) := by decide +kernel
theorem dA_message_26 : decode cA_message 26 = .ok (.ldc 126, 2) := by decide +kernel
theorem dA_message_28 : decode cA_message 28 = .ok (.invokespecial 86, 3) := by decide +kernel
theorem dA_message_31 : decode cA_message 31 = .ok (.athrow, 1) := by decide +kernel
theorem dA_message_32 : decode cA_message 32 = .ok (.iload_n 3, 1) := by decide +kernel
theorem dA_message_33 : decode cA_message 33 = .ok (.invokestatic 128, 3) := by decide +kernel
theorem dA_message_36 : decode cA_message 36 = .ok (.ifCond .eq 31, 3) := by decide +kernel
theorem dA_message_39 : decode cA_message 39 = .ok (.iload 4, 2) := by decide +kernel
theorem dA_message_41 : decode cA_message 41 = .ok (.iconst 0, 1) := by decide +kernel
theorem dA_message_42 : decode cA_message 42 = .ok (.bipush 20, 2) := by decide +kernel
theorem dA_message_44 : decode cA_message 44 = .ok (.invokestatic 54, 3) := by decide +kernel
theorem dA_message_47 : decode cA_message 47 = .ok (.ifCond .eq 20, 3) := by decide +kernel
theorem dA_message_50 : decode cA_message 50 = .ok (.iload 4, 2) := by decide +kernel
theorem dA_message_52 : decode cA_message 52 = .ok (.ifCond .le 25, 3) := by decide +kernel
theorem dA_message_55 : decode cA_message 55 = .ok (.iload 5, 2) := by decide +kernel
theorem dA_message_57 : decode cA_message 57 = .ok (.iconst 0, 1) := by decide +kernel
theorem dA_message_58 : decode cA_message 58 = .ok (.sipush 999, 3) := by decide +kernel
theorem dA_message_61 : decode cA_message 61 = .ok (.invokestatic 54, 3) := by decide +kernel
theorem dA_message_64 : decode cA_message 64 = .ok (.ifCond .ne 13, 3) := by decide +kernel
theorem dA_message_67 : decode cA_message 67 = .ok (.new 58, 3) := by decide +kernel
theorem dA_message_70 : decode cA_message 70 = .ok (.dup, 1) := by decide +kernel
theorem dA_message_71 : decode cA_message 71 = .ok (.ldc 131, 2) := by decide +kernel
theorem dA_message_73 : decode cA_message 73 = .ok (.invokespecial 62, 3) := by decide +kernel
theorem dA_message_76 : decode cA_message 76 = .ok (.athrow, 1) := by decide +kernel
theorem dA_message_77 : decode cA_message 77 = .ok (.aload_n 0, 1) := by decide +kernel
theorem dA_message_78 : decode cA_message 78 = .ok (.getfield 10, 3) := by decide +kernel
theorem dA_message_81 : decode cA_message 81 = .ok (.getfield 133, 3) := by decide +kernel
theorem dA_message_84 : decode cA_message 84 = .ok (.iload_n 2, 1) := by decide +kernel
theorem dA_message_85 : decode cA_message 85 = .ok (.baload, 1) := by decide +kernel
theorem dA_message_86 : decode cA_message 86 = .ok (.ifCond .eq 15, 3) := by decide +kernel
theorem dA_message_89 : decode cA_message 89 = .ok (.aload_n 0, 1) := by decide +kernel
theorem dA_message_90 : decode cA_message 90 = .ok (.dup, 1) := by decide +kernel
theorem dA_message_91 : decode cA_message 91 = .ok (.getfield 137, 3) := by decide +kernel
theorem dA_message_94 : decode cA_message 94 = .ok (.iconst 1, 1) := by decide +kernel
theorem dA_message_95 : decode cA_message 95 = .ok (.iadd, 1) := by decide +kernel
theorem dA_message_96 : decode cA_message 96 = .ok (.putfield 137, 3) := by decide +kernel
theorem dA_message_99 : decode cA_message 99 = .ok (.iconst 5, 1) := by decide +kernel
theorem dA_message_100 : decode cA_message 100 = .ok (.ireturn, 1) := by decide +kernel
theorem dA_message_101 : decode cA_message 101 = .ok (.aload_n 0, 1) := by decide +kernel
theorem dA_message_102 : decode cA_message 102 = .ok (.getfield 40, 3) := by decide +kernel
theorem dA_message_105 : decode cA_message 105 = .ok (.iload_n 2, 1) := by decide +kernel
theorem dA_message_106 : decode cA_message 106 = .ok (.iload_n 3, 1) := by decide +kernel
theorem dA_message_107 : decode cA_message 107 = .ok (.invokevirtual 141, 3) := by decide +kernel
theorem dA_message_110 : decode cA_message 110 = .ok (.ifCond .eq 15, 3) := by decide +kernel
theorem dA_message_113 : decode cA_message 113 = .ok (.aload_n 0, 1) := by decide +kernel
theorem dA_message_114 : decode cA_message 114 = .ok (.dup, 1) := by decide +kernel
theorem dA_message_115 : decode cA_message 115 = .ok (.getfield 144, 3) := by decide +kernel
theorem dA_message_118 : decode cA_message 118 = .ok (.iconst 1, 1) := by decide +kernel
theorem dA_message_119 : decode cA_message 119 = .ok (.iadd, 1) := by decide +kernel
theorem dA_message_120 : decode cA_message 120 = .ok (.putfield 144, 3) := by decide +kernel
theorem dA_message_123 : decode cA_message 123 = .ok (.iconst 2, 1) := by decide +kernel
theorem dA_message_124 : decode cA_message 124 = .ok (.ireturn, 1) := by decide +kernel
theorem dA_message_125 : decode cA_message 125 = .ok (.aload_n 0, 1) := by decide +kernel
theorem dA_message_126 : decode cA_message 126 = .ok (.iload_n 1, 1) := by decide +kernel
theorem dA_message_127 : decode cA_message 127 = .ok (.iload_n 2, 1) := by decide +kernel
theorem dA_message_128 : decode cA_message 128 = .ok (.iload 4, 2) := by decide +kernel
theorem dA_message_130 : decode cA_message 130 = .ok (.invokevirtual 147, 3) := by decide +kernel
theorem dA_message_133 : decode cA_message 133 = .ok (.istore 6, 2) := by decide +kernel
theorem dA_message_135 : decode cA_message 135 = .ok (.iload 6, 2) := by decide +kernel
theorem dA_message_137 : decode cA_message 137 = .ok (.iconst 1, 1) := by decide +kernel
theorem dA_message_138 : decode cA_message 138 = .ok (.if_icmp .ne 25, 3) := by decide +kernel
theorem dA_message_141 : decode cA_message 141 = .ok (.iload 4, 2) := by decide +kernel
theorem dA_message_143 : decode cA_message 143 = .ok (.aload_n 0, 1) := by decide +kernel
theorem dA_message_144 : decode cA_message 144 = .ok (.getfield 33, 3) := by decide +kernel
theorem dA_message_147 : decode cA_message 147 = .ok (.invokevirtual 150, 3) := by decide +kernel
theorem dA_message_150 : decode cA_message 150 = .ok (.if_icmp .le 13, 3) := by decide +kernel
theorem dA_message_153 : decode cA_message 153 = .ok (.new 69, 3) := by decide +kernel
theorem dA_message_156 : decode cA_message 156 = .ok (.dup, 1) := by decide +kernel
theorem dA_message_157 : decode cA_message 157 = .ok (.ldc 154, 2) := by decide +kernel
theorem dA_message_159 : decode cA_message 159 = .ok (.invokespecial 73, 3) := by decide +kernel
theorem dA_message_162 : decode cA_message 162 = .ok (.athrow, 1) := by decide +kernel
theorem dA_message_163 : decode cA_message 163 = .ok (.aload_n 0, 1) := by decide +kernel
theorem dA_message_164 : decode cA_message 164 = .ok (.getfield 40, 3) := by decide +kernel
theorem dA_message_167 : decode cA_message 167 = .ok (.iload_n 2, 1) := by decide +kernel
theorem dA_message_168 : decode cA_message 168 = .ok (.iload_n 3, 1) := by decide +kernel
theorem dA_message_169 : decode cA_message 169 = .ok (.iload 6, 2) := by decide +kernel
theorem dA_message_171 : decode cA_message 171 = .ok (.invokevirtual 156, 3) := by decide +kernel
theorem dA_message_174 : decode cA_message 174 = .ok (.iload 6, 2) := by decide +kernel
theorem dA_message_176 : decode cA_message 176 = .ok (.iconst 1, 1) := by decide +kernel
theorem dA_message_177 : decode cA_message 177 = .ok (.if_icmp .ne 13, 3) := by decide +kernel
theorem dA_message_180 : decode cA_message 180 = .ok (.aload_n 0, 1) := by decide +kernel
theorem dA_message_181 : decode cA_message 181 = .ok (.iload_n 1, 1) := by decide +kernel
theorem dA_message_182 : decode cA_message 182 = .ok (.iload_n 2, 1) := by decide +kernel
theorem dA_message_183 : decode cA_message 183 = .ok (.iload 4, 2) := by decide +kernel
theorem dA_message_185 : decode cA_message 185 = .ok (.iload 5, 2) := by decide +kernel
theorem dA_message_187 : decode cA_message 187 = .ok (.invokevirtual 160, 3) := by decide +kernel
theorem dA_message_190 : decode cA_message 190 = .ok (.iload 6, 2) := by decide +kernel
theorem dA_message_192 : decode cA_message 192 = .ok (.ireturn, 1) := by decide +kernel
theorem dA_seen_0 : decode cA_seen 0 = .ok (.aload_n 0, 1) := by decide +kernel
theorem dA_seen_1 : decode cA_seen 1 = .ok (.getfield 10, 3) := by decide +kernel
theorem dA_seen_4 : decode cA_seen 4 = .ok (.iload_n 1, 1) := by decide +kernel
theorem dA_seen_5 : decode cA_seen 5 = .ok (.invokevirtual 78, 3) := by decide +kernel
theorem dA_seen_8 : decode cA_seen 8 = .ok (.ifCond .ne 13, 3) := by decide +kernel
theorem dA_seen_11 : decode cA_seen 11 = .ok (.new 82, 3) := by decide +kernel
theorem dA_seen_14 : decode cA_seen 14 = .ok (.dup, 1) := by decide +kernel
theorem dA_seen_15 : decode cA_seen 15 = .ok (.ldc 164, 2) := by decide +kernel
theorem dA_seen_17 : decode cA_seen 17 = .ok (.invokespecial 86, 3) := by decide +kernel
theorem dA_seen_20 : decode cA_seen 20 = .ok (.athrow, 1) := by decide +kernel
theorem dA_seen_21 : decode cA_seen 21 = .ok (.iload_n 2, 1) := by decide +kernel
theorem dA_seen_22 : decode cA_seen 22 = .ok (.invokestatic 128, 3) := by decide +kernel
theorem dA_seen_25 : decode cA_seen 25 = .ok (.ifCond .ne 13, 3) := by decide +kernel
theorem dA_seen_28 : decode cA_seen 28 = .ok (.new 58, 3) := by decide +kernel
theorem dA_seen_31 : decode cA_seen 31 = .ok (.dup, 1) := by decide +kernel
theorem dA_seen_32 : decode cA_seen 32 = .ok (.ldc 166, 2) := by decide +kernel
theorem dA_seen_34 : decode cA_seen 34 = .ok (.invokespecial 62, 3) := by decide +kernel
theorem dA_seen_37 : decode cA_seen 37 = .ok (.athrow, 1) := by decide +kernel
theorem dA_seen_38 : decode cA_seen 38 = .ok (.aload_n 0, 1) := by decide +kernel
theorem dA_seen_39 : decode cA_seen 39 = .ok (.getfield 40, 3) := by decide +kernel
theorem dA_seen_42 : decode cA_seen 42 = .ok (.iload_n 1, 1) := by decide +kernel
theorem dA_seen_43 : decode cA_seen 43 = .ok (.iload_n 2, 1) := by decide +kernel
theorem dA_seen_44 : decode cA_seen 44 = .ok (.invokevirtual 141, 3) := by decide +kernel
theorem dA_seen_47 : decode cA_seen 47 = .ok (.ireturn, 1) := by decide +kernel
theorem dA_tick_0 : decode cA_tick 0 = .ok (.iload_n 1, 1) := by decide +kernel
theorem dA_tick_1 : decode cA_tick 1 = .ok (.iconst 1, 1) := by decide +kernel
theorem dA_tick_2 : decode cA_tick 2 = .ok (.sipush 2000, 3) := by decide +kernel
theorem dA_tick_5 : decode cA_tick 5 = .ok (.invokestatic 54, 3) := by decide +kernel
theorem dA_tick_8 : decode cA_tick 8 = .ok (.ifCond .eq 14, 3) := by decide +kernel
theorem dA_tick_11 : decode cA_tick 11 = .ok (.aload_n 0, 1) := by decide +kernel
theorem dA_tick_12 : decode cA_tick 12 = .ok (.getfield 168, 3) := by decide +kernel
theorem dA_tick_15 : decode cA_tick 15 = .ok (.iload_n 1, 1) := by decide +kernel
theorem dA_tick_16 : decode cA_tick 16 = .ok (.iadd, 1) := by decide +kernel
theorem dA_tick_17 : decode cA_tick 17 = .ok (.ldc 171, 2) := by decide +kernel
theorem dA_tick_19 : decode cA_tick 19 = .ok (.if_icmp .le 13, 3) := by decide +kernel
theorem dA_tick_22 : decode cA_tick 22 = .ok (.new 58, 3) := by decide +kernel
theorem dA_tick_25 : decode cA_tick 25 = .ok (.dup, 1) := by decide +kernel
theorem dA_tick_26 : decode cA_tick 26 = .ok (.ldc 172, 2) := by decide +kernel
theorem dA_tick_28 : decode cA_tick 28 = .ok (.invokespecial 62, 3) := by decide +kernel
theorem dA_tick_31 : decode cA_tick 31 = .ok (.athrow, 1) := by decide +kernel
theorem dA_tick_32 : decode cA_tick 32 = .ok (.aload_n 0, 1) := by decide +kernel
theorem dA_tick_33 : decode cA_tick 33 = .ok (.getfield 168, 3) := by decide +kernel
theorem dA_tick_36 : decode cA_tick 36 = .ok (.iload_n 1, 1) := by decide +kernel
theorem dA_tick_37 : decode cA_tick 37 = .ok (.iadd, 1) := by decide +kernel
theorem dA_tick_38 : decode cA_tick 38 = .ok (.istore_n 2, 1) := by decide +kernel
theorem dA_tick_39 : decode cA_tick 39 = .ok (.iconst 0, 1) := by decide +kernel
theorem dA_tick_40 : decode cA_tick 40 = .ok (.istore_n 3, 1) := by decide +kernel
theorem dA_tick_41 : decode cA_tick 41 = .ok (.iconst 0, 1) := by decide +kernel
theorem dA_tick_42 : decode cA_tick 42 = .ok (.istore 4, 2) := by decide +kernel
theorem dA_tick_44 : decode cA_tick 44 = .ok (.iload 4, 2) := by decide +kernel
theorem dA_tick_46 : decode cA_tick 46 = .ok (.iload_n 1, 1) := by decide +kernel
theorem dA_tick_47 : decode cA_tick 47 = .ok (.if_icmp .ge 37, 3) := by decide +kernel
theorem dA_tick_50 : decode cA_tick 50 = .ok (.aload_n 0, 1) := by decide +kernel
theorem dA_tick_51 : decode cA_tick 51 = .ok (.getfield 168, 3) := by decide +kernel
theorem dA_tick_54 : decode cA_tick 54 = .ok (.iload_n 2, 1) := by decide +kernel
theorem dA_tick_55 : decode cA_tick 55 = .ok (.if_icmp .ge 29, 3) := by decide +kernel
theorem dA_tick_58 : decode cA_tick 58 = .ok (.aload_n 0, 1) := by decide +kernel
theorem dA_tick_59 : decode cA_tick 59 = .ok (.aload_n 0, 1) := by decide +kernel
theorem dA_tick_60 : decode cA_tick 60 = .ok (.iload_n 2, 1) := by decide +kernel
theorem dA_tick_61 : decode cA_tick 61 = .ok (.invokevirtual 174, 3) := by decide +kernel
theorem dA_tick_64 : decode cA_tick 64 = .ok (.putfield 168, 3) := by decide +kernel
theorem dA_tick_67 : decode cA_tick 67 = .ok (.aload_n 0, 1) := by decide +kernel
theorem dA_tick_68 : decode cA_tick 68 = .ok (.invokevirtual 178, 3) := by decide +kernel
theorem dA_tick_71 : decode cA_tick 71 = .ok (.iload_n 3, 1) := by decide +kernel
theorem dA_tick_72 : decode cA_tick 72 = .ok (.aload_n 0, 1) := by decide +kernel
theorem dA_tick_73 : decode cA_tick 73 = .ok (.invokevirtual 181, 3) := by decide +kernel
theorem dA_tick_76 : decode cA_tick 76 = .ok (.iadd, 1) := by decide +kernel
theorem dA_tick_77 : decode cA_tick 77 = .ok (.istore_n 3, 1) := by decide +kernel
theorem dA_tick_78 : decode cA_tick 78 = .ok (.iinc 4 1, 3) := by decide +kernel
theorem dA_tick_81 : decode cA_tick 81 = .ok (.goto (-37), 3) := by decide +kernel
theorem dA_tick_84 : decode cA_tick 84 = .ok (.iload_n 3, 1) := by decide +kernel
theorem dA_tick_85 : decode cA_tick 85 = .ok (.ireturn, 1) := by decide +kernel
theorem dA_cut_0 : decode cA_cut 0 = .ok (.aload_n 0, 1) := by decide +kernel
theorem dA_cut_1 : decode cA_cut 1 = .ok (.getfield 10, 3) := by decide +kernel
theorem dA_cut_4 : decode cA_cut 4 = .ok (.iload_n 1, 1) := by decide +kernel
theorem dA_cut_5 : decode cA_cut 5 = .ok (.invokevirtual 78, 3) := by decide +kernel
theorem dA_cut_8 : decode cA_cut 8 = .ok (.ifCond .ne 13, 3) := by decide +kernel
theorem dA_cut_11 : decode cA_cut 11 = .ok (.new 82, 3) := by decide +kernel
theorem dA_cut_14 : decode cA_cut 14 = .ok (.dup, 1) := by decide +kernel
theorem dA_cut_15 : decode cA_cut 15 = .ok (.ldc 164, 2) := by decide +kernel
theorem dA_cut_17 : decode cA_cut 17 = .ok (.invokespecial 86, 3) := by decide +kernel
theorem dA_cut_20 : decode cA_cut 20 = .ok (.athrow, 1) := by decide +kernel
theorem dA_cut_21 : decode cA_cut 21 = .ok (.aload_n 0, 1) := by decide +kernel
theorem dA_cut_22 : decode cA_cut 22 = .ok (.getfield 10, 3) := by decide +kernel
theorem dA_cut_25 : decode cA_cut 25 = .ok (.getfield 133, 3) := by decide +kernel
theorem dA_cut_28 : decode cA_cut 28 = .ok (.iload_n 1, 1) := by decide +kernel
theorem dA_cut_29 : decode cA_cut 29 = .ok (.baload, 1) := by decide +kernel
theorem dA_cut_30 : decode cA_cut 30 = .ok (.iload_n 2, 1) := by decide +kernel
theorem dA_cut_31 : decode cA_cut 31 = .ok (.if_icmp .ne 13, 3) := by decide +kernel
theorem dA_cut_34 : decode cA_cut 34 = .ok (.new 100, 3) := by decide +kernel
theorem dA_cut_37 : decode cA_cut 37 = .ok (.dup, 1) := by decide +kernel
theorem dA_cut_38 : decode cA_cut 38 = .ok (.ldc 184, 2) := by decide +kernel
theorem dA_cut_40 : decode cA_cut 40 = .ok (.invokespecial 104, 3) := by decide +kernel
theorem dA_cut_43 : decode cA_cut 43 = .ok (.athrow, 1) := by decide +kernel
theorem dA_cut_44 : decode cA_cut 44 = .ok (.aload_n 0, 1) := by decide +kernel
theorem dA_cut_45 : decode cA_cut 45 = .ok (.getfield 10, 3) := by decide +kernel
theorem dA_cut_48 : decode cA_cut 48 = .ok (.getfield 133, 3) := by decide +kernel
theorem dA_cut_51 : decode cA_cut 51 = .ok (.iload_n 1, 1) := by decide +kernel
theorem dA_cut_52 : decode cA_cut 52 = .ok (.iload_n 2, 1) := by decide +kernel
theorem dA_cut_53 : decode cA_cut 53 = .ok (.bastore, 1) := by decide +kernel
theorem dA_cut_54 : decode cA_cut 54 = .ok (.return_, 1) := by decide +kernel
theorem dA_end_0 : decode cA_end 0 = .ok (.aload_n 0, 1) := by decide +kernel
theorem dA_end_1 : decode cA_end 1 = .ok (.getfield 33, 3) := by decide +kernel
theorem dA_end_4 : decode cA_end 4 = .ok (.iload_n 1, 1) := by decide +kernel
theorem dA_end_5 : decode cA_end 5 = .ok (.invokevirtual 186, 3) := by decide +kernel
theorem dA_end_8 : decode cA_end 8 = .ok (.ifCond .ne 13, 3) := by decide +kernel
theorem dA_end_11 : decode cA_end 11 = .ok (.new 82, 3) := by decide +kernel
theorem dA_end_14 : decode cA_end 14 = .ok (.dup, 1) := by decide +kernel
theorem dA_end_15 : decode cA_end 15 = .ok (.ldc 187, 2) := by decide +kernel
theorem dA_end_17 : decode cA_end 17 = .ok (.invokespecial 86, 3) := by decide +kernel
theorem dA_end_20 : decode cA_end 20 = .ok (.athrow, 1) := by decide +kernel
theorem dA_end_21 : decode cA_end 21 = .ok (.aload_n 0, 1) := by decide +kernel
theorem dA_end_22 : decode cA_end 22 = .ok (.getfield 33, 3) := by decide +kernel
theorem dA_end_25 : decode cA_end 25 = .ok (.iload_n 1, 1) := by decide +kernel
theorem dA_end_26 : decode cA_end 26 = .ok (.invokevirtual 189, 3) := by decide +kernel
theorem dA_end_29 : decode cA_end 29 = .ok (.ifCond .ne 13, 3) := by decide +kernel
theorem dA_end_32 : decode cA_end 32 = .ok (.new 100, 3) := by decide +kernel
theorem dA_end_35 : decode cA_end 35 = .ok (.dup, 1) := by decide +kernel
theorem dA_end_36 : decode cA_end 36 = .ok (.ldc 192, 2) := by decide +kernel
theorem dA_end_38 : decode cA_end 38 = .ok (.invokespecial 104, 3) := by decide +kernel
theorem dA_end_41 : decode cA_end 41 = .ok (.athrow, 1) := by decide +kernel
theorem dA_end_42 : decode cA_end 42 = .ok (.aload_n 0, 1) := by decide +kernel
theorem dA_end_43 : decode cA_end 43 = .ok (.getfield 33, 3) := by decide +kernel
theorem dA_end_46 : decode cA_end 46 = .ok (.getfield 194, 3) := by decide +kernel
theorem dA_end_49 : decode cA_end 49 = .ok (.iload_n 1, 1) := by decide +kernel
theorem dA_end_50 : decode cA_end 50 = .ok (.aload_n 0, 1) := by decide +kernel
theorem dA_end_51 : decode cA_end 51 = .ok (.getfield 168, 3) := by decide +kernel
theorem dA_end_54 : decode cA_end 54 = .ok (.iastore, 1) := by decide +kernel
theorem dA_end_55 : decode cA_end 55 = .ok (.return_, 1) := by decide +kernel
theorem dA_askAt_0 : decode cA_askAt 0 = .ok (.aload_n 0, 1) := by decide +kernel
theorem dA_askAt_1 : decode cA_askAt 1 = .ok (.getfield 26, 3) := by decide +kernel
theorem dA_askAt_4 : decode cA_askAt 4 = .ok (.iload_n 1, 1) := by decide +kernel
theorem dA_askAt_5 : decode cA_askAt 5 = .ok (.invokevirtual 125, 3) := by decide +kernel
theorem dA_askAt_8 : decode cA_askAt 8 = .ok (.ifCond .eq 12, 3) := by decide +kernel
theorem dA_askAt_11 : decode cA_askAt 11 = .ok (.iload_n 2, 1) := by decide +kernel
theorem dA_askAt_12 : decode cA_askAt 12 = .ok (.iconst 0, 1) := by decide +kernel
theorem dA_askAt_13 : decode cA_askAt 13 = .ok (.iconst 5, 1) := by decide +kernel
theorem dA_askAt_14 : decode cA_askAt 14 = .ok (.invokestatic 54, 3) := by decide +kernel
theorem dA_askAt_17 : decode cA_askAt 17 = .ok (.ifCond .ne 13, 3) := by decide +kernel
theorem dA_askAt_20 : decode cA_askAt 20 = .ok (.new 82, 3) := by decide +kernel
theorem dA_askAt_23 : decode cA_askAt 23 = .ok (.dup, 1) := by decide +kernel
theorem dA_askAt_24 : decode cA_askAt 24 = .ok (.ldc 197, 2) := by decide +kernel
theorem dA_askAt_26 : decode cA_askAt 26 = .ok (.invokespecial 86, 3) := by decide +kernel
theorem dA_askAt_29 : decode cA_askAt 29 = .ok (.athrow, 1) := by decide +kernel
theorem dA_askAt_30 : decode cA_askAt 30 = .ok (.iload_n 2, 1) := by decide +kernel
theorem dA_askAt_31 : decode cA_askAt 31 = .ok (.tableswitch 82 0 4 #[33, 43, 53, 63, 73], 33) := by decide +kernel
theorem dA_askAt_64 : decode cA_askAt 64 = .ok (.aload_n 0, 1) := by decide +kernel
theorem dA_askAt_65 : decode cA_askAt 65 = .ok (.getfield 26, 3) := by decide +kernel
theorem dA_askAt_68 : decode cA_askAt 68 = .ok (.getfield 199, 3) := by decide +kernel
theorem dA_askAt_71 : decode cA_askAt 71 = .ok (.iload_n 1, 1) := by decide +kernel
theorem dA_askAt_72 : decode cA_askAt 72 = .ok (.iaload, 1) := by decide +kernel
theorem dA_askAt_73 : decode cA_askAt 73 = .ok (.ireturn, 1) := by decide +kernel
theorem dA_askAt_74 : decode cA_askAt 74 = .ok (.aload_n 0, 1) := by decide +kernel
theorem dA_askAt_75 : decode cA_askAt 75 = .ok (.getfield 26, 3) := by decide +kernel
theorem dA_askAt_78 : decode cA_askAt 78 = .ok (.getfield 202, 3) := by decide +kernel
theorem dA_askAt_81 : decode cA_askAt 81 = .ok (.iload_n 1, 1) := by decide +kernel
theorem dA_askAt_82 : decode cA_askAt 82 = .ok (.iaload, 1) := by decide +kernel
theorem dA_askAt_83 : decode cA_askAt 83 = .ok (.ireturn, 1) := by decide +kernel
theorem dA_askAt_84 : decode cA_askAt 84 = .ok (.aload_n 0, 1) := by decide +kernel
theorem dA_askAt_85 : decode cA_askAt 85 = .ok (.getfield 26, 3) := by decide +kernel
theorem dA_askAt_88 : decode cA_askAt 88 = .ok (.getfield 205, 3) := by decide +kernel
theorem dA_askAt_91 : decode cA_askAt 91 = .ok (.iload_n 1, 1) := by decide +kernel
theorem dA_askAt_92 : decode cA_askAt 92 = .ok (.iaload, 1) := by decide +kernel
theorem dA_askAt_93 : decode cA_askAt 93 = .ok (.ireturn, 1) := by decide +kernel
theorem dA_askAt_94 : decode cA_askAt 94 = .ok (.aload_n 0, 1) := by decide +kernel
theorem dA_askAt_95 : decode cA_askAt 95 = .ok (.getfield 26, 3) := by decide +kernel
theorem dA_askAt_98 : decode cA_askAt 98 = .ok (.getfield 208, 3) := by decide +kernel
theorem dA_askAt_101 : decode cA_askAt 101 = .ok (.iload_n 1, 1) := by decide +kernel
theorem dA_askAt_102 : decode cA_askAt 102 = .ok (.iaload, 1) := by decide +kernel
theorem dA_askAt_103 : decode cA_askAt 103 = .ok (.ireturn, 1) := by decide +kernel
theorem dA_askAt_104 : decode cA_askAt 104 = .ok (.aload_n 0, 1) := by decide +kernel
theorem dA_askAt_105 : decode cA_askAt 105 = .ok (.getfield 26, 3) := by decide +kernel
theorem dA_askAt_108 : decode cA_askAt 108 = .ok (.iload_n 1, 1) := by decide +kernel
theorem dA_askAt_109 : decode cA_askAt 109 = .ok (.invokevirtual 211, 3) := by decide +kernel
theorem dA_askAt_112 : decode cA_askAt 112 = .ok (.ireturn, 1) := by decide +kernel
theorem dA_askAt_113 : decode cA_askAt 113 = .ok (.aload_n 0, 1) := by decide +kernel
theorem dA_askAt_114 : decode cA_askAt 114 = .ok (.getfield 26, 3) := by decide +kernel
theorem dA_askAt_117 : decode cA_askAt 117 = .ok (.getfield 214, 3) := by decide +kernel
theorem dA_askAt_120 : decode cA_askAt 120 = .ok (.iload_n 1, 1) := by decide +kernel
theorem dA_askAt_121 : decode cA_askAt 121 = .ok (.baload, 1) := by decide +kernel
theorem dA_askAt_122 : decode cA_askAt 122 = .ok (.ifCond .eq 7, 3) := by decide +kernel
theorem dA_askAt_125 : decode cA_askAt 125 = .ok (.iconst 1, 1) := by decide +kernel
theorem dA_askAt_126 : decode cA_askAt 126 = .ok (.goto 4, 3) := by decide +kernel
theorem dA_askAt_129 : decode cA_askAt 129 = .ok (.iconst 0, 1) := by decide +kernel
theorem dA_askAt_130 : decode cA_askAt 130 = .ok (.ireturn, 1) := by decide +kernel
theorem dA_loanAt_0 : decode cA_loanAt 0 = .ok (.aload_n 0, 1) := by decide +kernel
theorem dA_loanAt_1 : decode cA_loanAt 1 = .ok (.getfield 33, 3) := by decide +kernel
theorem dA_loanAt_4 : decode cA_loanAt 4 = .ok (.iload_n 1, 1) := by decide +kernel
theorem dA_loanAt_5 : decode cA_loanAt 5 = .ok (.invokevirtual 186, 3) := by decide +kernel
theorem dA_loanAt_8 : decode cA_loanAt 8 = .ok (.ifCond .eq 13, 3) := by decide +kernel
theorem dA_loanAt_11 : decode cA_loanAt 11 = .ok (.iload_n 2, 1) := by decide +kernel
theorem dA_loanAt_12 : decode cA_loanAt 12 = .ok (.iconst 0, 1) := by decide +kernel
theorem dA_loanAt_13 : decode cA_loanAt 13 = .ok (.bipush 6, 2) := by decide +kernel
theorem dA_loanAt_15 : decode cA_loanAt 15 = .ok (.invokestatic 54, 3) := by decide +kernel
theorem dA_loanAt_18 : decode cA_loanAt 18 = .ok (.ifCond .ne 13, 3) := by decide +kernel
theorem dA_loanAt_21 : decode cA_loanAt 21 = .ok (.new 82, 3) := by decide +kernel
theorem dA_loanAt_24 : decode cA_loanAt 24 = .ok (.dup, 1) := by decide +kernel
theorem dA_loanAt_25 : decode cA_loanAt 25 = .ok (.ldc 217, 2) := by decide +kernel
theorem dA_loanAt_27 : decode cA_loanAt 27 = .ok (.invokespecial 86, 3) := by decide +kernel
theorem dA_loanAt_30 : decode cA_loanAt 30 = .ok (.athrow, 1) := by decide +kernel
theorem dA_loanAt_31 : decode cA_loanAt 31 = .ok (.iload_n 2, 1) := by decide +kernel
theorem dA_loanAt_32 : decode cA_loanAt 32 = .ok (.tableswitch 100 0 5 #[40, 50, 60, 70, 80, 90], 40) := by decide +kernel
theorem dA_loanAt_72 : decode cA_loanAt 72 = .ok (.aload_n 0, 1) := by decide +kernel
theorem dA_loanAt_73 : decode cA_loanAt 73 = .ok (.getfield 33, 3) := by decide +kernel
theorem dA_loanAt_76 : decode cA_loanAt 76 = .ok (.getfield 219, 3) := by decide +kernel
theorem dA_loanAt_79 : decode cA_loanAt 79 = .ok (.iload_n 1, 1) := by decide +kernel
theorem dA_loanAt_80 : decode cA_loanAt 80 = .ok (.iaload, 1) := by decide +kernel
theorem dA_loanAt_81 : decode cA_loanAt 81 = .ok (.ireturn, 1) := by decide +kernel
theorem dA_loanAt_82 : decode cA_loanAt 82 = .ok (.aload_n 0, 1) := by decide +kernel
theorem dA_loanAt_83 : decode cA_loanAt 83 = .ok (.getfield 33, 3) := by decide +kernel
theorem dA_loanAt_86 : decode cA_loanAt 86 = .ok (.getfield 221, 3) := by decide +kernel
theorem dA_loanAt_89 : decode cA_loanAt 89 = .ok (.iload_n 1, 1) := by decide +kernel
theorem dA_loanAt_90 : decode cA_loanAt 90 = .ok (.iaload, 1) := by decide +kernel
theorem dA_loanAt_91 : decode cA_loanAt 91 = .ok (.ireturn, 1) := by decide +kernel
theorem dA_loanAt_92 : decode cA_loanAt 92 = .ok (.aload_n 0, 1) := by decide +kernel
theorem dA_loanAt_93 : decode cA_loanAt 93 = .ok (.getfield 33, 3) := by decide +kernel
theorem dA_loanAt_96 : decode cA_loanAt 96 = .ok (.getfield 224, 3) := by decide +kernel
theorem dA_loanAt_99 : decode cA_loanAt 99 = .ok (.iload_n 1, 1) := by decide +kernel
theorem dA_loanAt_100 : decode cA_loanAt 100 = .ok (.iaload, 1) := by decide +kernel
theorem dA_loanAt_101 : decode cA_loanAt 101 = .ok (.ireturn, 1) := by decide +kernel
theorem dA_loanAt_102 : decode cA_loanAt 102 = .ok (.aload_n 0, 1) := by decide +kernel
theorem dA_loanAt_103 : decode cA_loanAt 103 = .ok (.getfield 33, 3) := by decide +kernel
theorem dA_loanAt_106 : decode cA_loanAt 106 = .ok (.getfield 226, 3) := by decide +kernel
theorem dA_loanAt_109 : decode cA_loanAt 109 = .ok (.iload_n 1, 1) := by decide +kernel
theorem dA_loanAt_110 : decode cA_loanAt 110 = .ok (.iaload, 1) := by decide +kernel
theorem dA_loanAt_111 : decode cA_loanAt 111 = .ok (.ireturn, 1) := by decide +kernel
theorem dA_loanAt_112 : decode cA_loanAt 112 = .ok (.aload_n 0, 1) := by decide +kernel
theorem dA_loanAt_113 : decode cA_loanAt 113 = .ok (.getfield 33, 3) := by decide +kernel
theorem dA_loanAt_116 : decode cA_loanAt 116 = .ok (.getfield 228, 3) := by decide +kernel
theorem dA_loanAt_119 : decode cA_loanAt 119 = .ok (.iload_n 1, 1) := by decide +kernel
theorem dA_loanAt_120 : decode cA_loanAt 120 = .ok (.iaload, 1) := by decide +kernel
theorem dA_loanAt_121 : decode cA_loanAt 121 = .ok (.ireturn, 1) := by decide +kernel
theorem dA_loanAt_122 : decode cA_loanAt 122 = .ok (.aload_n 0, 1) := by decide +kernel
theorem dA_loanAt_123 : decode cA_loanAt 123 = .ok (.getfield 33, 3) := by decide +kernel
theorem dA_loanAt_126 : decode cA_loanAt 126 = .ok (.getfield 194, 3) := by decide +kernel
theorem dA_loanAt_129 : decode cA_loanAt 129 = .ok (.iload_n 1, 1) := by decide +kernel
theorem dA_loanAt_130 : decode cA_loanAt 130 = .ok (.iaload, 1) := by decide +kernel
theorem dA_loanAt_131 : decode cA_loanAt 131 = .ok (.ireturn, 1) := by decide +kernel
theorem dA_loanAt_132 : decode cA_loanAt 132 = .ok (.aload_n 0, 1) := by decide +kernel
theorem dA_loanAt_133 : decode cA_loanAt 133 = .ok (.iload_n 1, 1) := by decide +kernel
theorem dA_loanAt_134 : decode cA_loanAt 134 = .ok (.invokevirtual 231, 3) := by decide +kernel
theorem dA_loanAt_137 : decode cA_loanAt 137 = .ok (.ireturn, 1) := by decide +kernel
theorem dA_cost_0 : decode cA_cost 0 = .ok (.aload_n 0, 1) := by decide +kernel
theorem dA_cost_1 : decode cA_cost 1 = .ok (.getfield 10, 3) := by decide +kernel
theorem dA_cost_4 : decode cA_cost 4 = .ok (.iload_n 1, 1) := by decide +kernel
theorem dA_cost_5 : decode cA_cost 5 = .ok (.invokevirtual 78, 3) := by decide +kernel
theorem dA_cost_8 : decode cA_cost 8 = .ok (.ifCond .ne 13, 3) := by decide +kernel
theorem dA_cost_11 : decode cA_cost 11 = .ok (.new 82, 3) := by decide +kernel
theorem dA_cost_14 : decode cA_cost 14 = .ok (.dup, 1) := by decide +kernel
theorem dA_cost_15 : decode cA_cost 15 = .ok (.ldc 164, 2) := by decide +kernel
theorem dA_cost_17 : decode cA_cost 17 = .ok (.invokespecial 86, 3) := by decide +kernel
theorem dA_cost_20 : decode cA_cost 20 = .ok (.athrow, 1) := by decide +kernel
theorem dA_cost_21 : decode cA_cost 21 = .ok (.iconst 0, 1) := by decide +kernel
theorem dA_cost_22 : decode cA_cost 22 = .ok (.istore_n 2, 1) := by decide +kernel
theorem dA_cost_23 : decode cA_cost 23 = .ok (.iconst 0, 1) := by decide +kernel
theorem dA_cost_24 : decode cA_cost 24 = .ok (.istore_n 3, 1) := by decide +kernel
