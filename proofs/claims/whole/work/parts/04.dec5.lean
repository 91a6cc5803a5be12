theorem dB_agree_248 : decode cB_agree 248 = .ok (.aload_n 0, 1) := by decide +kernel
theorem dB_agree_249 : decode cB_agree 249 = .ok (.getfield 115, 3) := by decide +kernel
theorem dB_agree_252 : decode cB_agree 252 = .ok (.iload 5, 2) := by decide +kernel
theorem dB_agree_254 : decode cB_agree 254 = .ok (.bipush 100, 2) := by decide +kernel
theorem dB_agree_256 : decode cB_agree 256 = .ok (.idiv, 1) := by decide +kernel
theorem dB_agree_257 : decode cB_agree 257 = .ok (.iastore, 1) := by decide +kernel
theorem dB_agree_258 : decode cB_agree 258 = .ok (.aload_n 0, 1) := by decide +kernel
theorem dB_agree_259 : decode cB_agree 259 = .ok (.getfield 35, 3) := by decide +kernel
theorem dB_agree_262 : decode cB_agree 262 = .ok (.aload_n 0, 1) := by decide +kernel
theorem dB_agree_263 : decode cB_agree 263 = .ok (.getfield 115, 3) := by decide +kernel
theorem dB_agree_266 : decode cB_agree 266 = .ok (.iload 5, 2) := by decide +kernel
theorem dB_agree_268 : decode cB_agree 268 = .ok (.bipush 100, 2) := by decide +kernel
theorem dB_agree_270 : decode cB_agree 270 = .ok (.irem, 1) := by decide +kernel
theorem dB_agree_271 : decode cB_agree 271 = .ok (.iastore, 1) := by decide +kernel
theorem dB_agree_272 : decode cB_agree 272 = .ok (.aload_n 0, 1) := by decide +kernel
theorem dB_agree_273 : decode cB_agree 273 = .ok (.getfield 38, 3) := by decide +kernel
theorem dB_agree_276 : decode cB_agree 276 = .ok (.aload_n 0, 1) := by decide +kernel
theorem dB_agree_277 : decode cB_agree 277 = .ok (.getfield 115, 3) := by decide +kernel
theorem dB_agree_280 : decode cB_agree 280 = .ok (.iload 6, 2) := by decide +kernel
theorem dB_agree_282 : decode cB_agree 282 = .ok (.iastore, 1) := by decide +kernel
theorem dB_agree_283 : decode cB_agree 283 = .ok (.aload_n 0, 1) := by decide +kernel
theorem dB_agree_284 : decode cB_agree 284 = .ok (.dup, 1) := by decide +kernel
theorem dB_agree_285 : decode cB_agree 285 = .ok (.getfield 115, 3) := by decide +kernel
theorem dB_agree_288 : decode cB_agree 288 = .ok (.iconst 1, 1) := by decide +kernel
theorem dB_agree_289 : decode cB_agree 289 = .ok (.iadd, 1) := by decide +kernel
theorem dB_agree_290 : decode cB_agree 290 = .ok (.putfield 115, 3) := by decide +kernel
theorem dB_agree_293 : decode cB_agree 293 = .ok (.aload_n 0, 1) := by decide +kernel
theorem dB_agree_294 : decode cB_agree 294 = .ok (.getfield 115, 3) := by decide +kernel
theorem dB_agree_297 : decode cB_agree 297 = .ok (.iconst 1, 1) := by decide +kernel
theorem dB_agree_298 : decode cB_agree 298 = .ok (.isub, 1) := by decide +kernel
theorem dB_agree_299 : decode cB_agree 299 = .ok (.ireturn, 1) := by decide +kernel
theorem dB_holds_0 : decode cB_holds 0 = .ok (.aload_n 0, 1) := by decide +kernel
theorem dB_holds_1 : decode cB_holds 1 = .ok (.getfield 118, 3) := by decide +kernel
theorem dB_holds_4 : decode cB_holds 4 = .ok (.bipush 60, 2) := by decide +kernel
theorem dB_holds_6 : decode cB_holds 6 = .ok (.idiv, 1) := by decide +kernel
theorem dB_holds_7 : decode cB_holds 7 = .ok (.bipush 24, 2) := by decide +kernel
theorem dB_holds_9 : decode cB_holds 9 = .ok (.irem, 1) := by decide +kernel
theorem dB_holds_10 : decode cB_holds 10 = .ok (.istore_n 2, 1) := by decide +kernel
theorem dB_holds_11 : decode cB_holds 11 = .ok (.aload_n 0, 1) := by decide +kernel
theorem dB_holds_12 : decode cB_holds 12 = .ok (.getfield 32, 3) := by decide +kernel
theorem dB_holds_15 : decode cB_holds 15 = .ok (.iload_n 1, 1) := by decide +kernel
theorem dB_holds_16 : decode cB_holds 16 = .ok (.iaload, 1) := by decide +kernel
theorem dB_holds_17 : decode cB_holds 17 = .ok (.aload_n 0, 1) := by decide +kernel
theorem dB_holds_18 : decode cB_holds 18 = .ok (.getfield 35, 3) := by decide +kernel
theorem dB_holds_21 : decode cB_holds 21 = .ok (.iload_n 1, 1) := by decide +kernel
theorem dB_holds_22 : decode cB_holds 22 = .ok (.iaload, 1) := by decide +kernel
theorem dB_holds_23 : decode cB_holds 23 = .ok (.if_icmp .gt 22, 3) := by decide +kernel
theorem dB_holds_26 : decode cB_holds 26 = .ok (.iload_n 2, 1) := by decide +kernel
theorem dB_holds_27 : decode cB_holds 27 = .ok (.aload_n 0, 1) := by decide +kernel
theorem dB_holds_28 : decode cB_holds 28 = .ok (.getfield 32, 3) := by decide +kernel
theorem dB_holds_31 : decode cB_holds 31 = .ok (.iload_n 1, 1) := by decide +kernel
theorem dB_holds_32 : decode cB_holds 32 = .ok (.iaload, 1) := by decide +kernel
theorem dB_holds_33 : decode cB_holds 33 = .ok (.aload_n 0, 1) := by decide +kernel
theorem dB_holds_34 : decode cB_holds 34 = .ok (.getfield 35, 3) := by decide +kernel
theorem dB_holds_37 : decode cB_holds 37 = .ok (.iload_n 1, 1) := by decide +kernel
theorem dB_holds_38 : decode cB_holds 38 = .ok (.iaload, 1) := by decide +kernel
theorem dB_holds_39 : decode cB_holds 39 = .ok (.invokestatic 102, 3) := by decide +kernel
theorem dB_holds_42 : decode cB_holds 42 = .ok (.goto 28, 3) := by decide +kernel
theorem dB_holds_45 : decode cB_holds 45 = .ok (.iload_n 2, 1) := by decide +kernel
theorem dB_holds_46 : decode cB_holds 46 = .ok (.aload_n 0, 1) := by decide +kernel
theorem dB_holds_47 : decode cB_holds 47 = .ok (.getfield 32, 3) := by decide +kernel
theorem dB_holds_50 : decode cB_holds 50 = .ok (.iload_n 1, 1) := by decide +kernel
theorem dB_holds_51 : decode cB_holds 51 = .ok (.iaload, 1) := by decide +kernel
theorem dB_holds_52 : decode cB_holds 52 = .ok (.if_icmp .ge 13, 3) := by decide +kernel
theorem dB_holds_55 : decode cB_holds 55 = .ok (.iload_n 2, 1) := by decide +kernel
theorem dB_holds_56 : decode cB_holds 56 = .ok (.aload_n 0, 1) := by decide +kernel
theorem dB_holds_57 : decode cB_holds 57 = .ok (.getfield 35, 3) := by decide +kernel
theorem dB_holds_60 : decode cB_holds 60 = .ok (.iload_n 1, 1) := by decide +kernel
theorem dB_holds_61 : decode cB_holds 61 = .ok (.iaload, 1) := by decide +kernel
theorem dB_holds_62 : decode cB_holds 62 = .ok (.if_icmp .gt 7, 3) := by decide +kernel
theorem dB_holds_65 : decode cB_holds 65 = .ok (.iconst 1, 1) := by decide +kernel
theorem dB_holds_66 : decode cB_holds 66 = .ok (.goto 4, 3) := by decide +kernel
theorem dB_holds_69 : decode cB_holds 69 = .ok (.iconst 0, 1) := by decide +kernel
theorem dB_holds_70 : decode cB_holds 70 = .ok (.istore_n 3, 1) := by decide +kernel
theorem dB_holds_71 : decode cB_holds 71 = .ok (.aload_n 0, 1) := by decide +kernel
theorem dB_holds_72 : decode cB_holds 72 = .ok (.getfield 118, 3) := by decide +kernel
theorem dB_holds_75 : decode cB_holds 75 = .ok (.aload_n 0, 1) := by decide +kernel
theorem dB_holds_76 : decode cB_holds 76 = .ok (.getfield 26, 3) := by decide +kernel
theorem dB_holds_79 : decode cB_holds 79 = .ok (.iload_n 1, 1) := by decide +kernel
theorem dB_holds_80 : decode cB_holds 80 = .ok (.iaload, 1) := by decide +kernel
theorem dB_holds_81 : decode cB_holds 81 = .ok (.if_icmp .lt 24, 3) := by decide +kernel
theorem dB_holds_84 : decode cB_holds 84 = .ok (.aload_n 0, 1) := by decide +kernel
theorem dB_holds_85 : decode cB_holds 85 = .ok (.getfield 118, 3) := by decide +kernel
theorem dB_holds_88 : decode cB_holds 88 = .ok (.aload_n 0, 1) := by decide +kernel
theorem dB_holds_89 : decode cB_holds 89 = .ok (.getfield 29, 3) := by decide +kernel
theorem dB_holds_92 : decode cB_holds 92 = .ok (.iload_n 1, 1) := by decide +kernel
theorem dB_holds_93 : decode cB_holds 93 = .ok (.iaload, 1) := by decide +kernel
theorem dB_holds_94 : decode cB_holds 94 = .ok (.if_icmp .ge 11, 3) := by decide +kernel
theorem dB_holds_97 : decode cB_holds 97 = .ok (.iload_n 3, 1) := by decide +kernel
theorem dB_holds_98 : decode cB_holds 98 = .ok (.ifCond .eq 7, 3) := by decide +kernel
theorem dB_holds_101 : decode cB_holds 101 = .ok (.iconst 1, 1) := by decide +kernel
theorem dB_holds_102 : decode cB_holds 102 = .ok (.goto 4, 3) := by decide +kernel
theorem dB_holds_105 : decode cB_holds 105 = .ok (.iconst 0, 1) := by decide +kernel
theorem dB_holds_106 : decode cB_holds 106 = .ok (.ireturn, 1) := by decide +kernel
theorem dB_holding_0 : decode cB_holding 0 = .ok (.iconst 0, 1) := by decide +kernel
theorem dB_holding_1 : decode cB_holding 1 = .ok (.istore_n 3, 1) := by decide +kernel
theorem dB_holding_2 : decode cB_holding 2 = .ok (.iload_n 3, 1) := by decide +kernel
theorem dB_holding_3 : decode cB_holding 3 = .ok (.aload_n 0, 1) := by decide +kernel
theorem dB_holding_4 : decode cB_holding 4 = .ok (.getfield 115, 3) := by decide +kernel
theorem dB_holding_7 : decode cB_holding 7 = .ok (.if_icmp .ge 39, 3) := by decide +kernel
theorem dB_holding_10 : decode cB_holding 10 = .ok (.aload_n 0, 1) := by decide +kernel
theorem dB_holding_11 : decode cB_holding 11 = .ok (.getfield 20, 3) := by decide +kernel
theorem dB_holding_14 : decode cB_holding 14 = .ok (.iload_n 3, 1) := by decide +kernel
theorem dB_holding_15 : decode cB_holding 15 = .ok (.iaload, 1) := by decide +kernel
theorem dB_holding_16 : decode cB_holding 16 = .ok (.iload_n 1, 1) := by decide +kernel
theorem dB_holding_17 : decode cB_holding 17 = .ok (.if_icmp .ne 23, 3) := by decide +kernel
theorem dB_holding_20 : decode cB_holding 20 = .ok (.aload_n 0, 1) := by decide +kernel
theorem dB_holding_21 : decode cB_holding 21 = .ok (.getfield 23, 3) := by decide +kernel
theorem dB_holding_24 : decode cB_holding 24 = .ok (.iload_n 3, 1) := by decide +kernel
theorem dB_holding_25 : decode cB_holding 25 = .ok (.iaload, 1) := by decide +kernel
theorem dB_holding_26 : decode cB_holding 26 = .ok (.iload_n 2, 1) := by decide +kernel
theorem dB_holding_27 : decode cB_holding 27 = .ok (.if_icmp .ne 13, 3) := by decide +kernel
theorem dB_holding_30 : decode cB_holding 30 = .ok (.aload_n 0, 1) := by decide +kernel
theorem dB_holding_31 : decode cB_holding 31 = .ok (.iload_n 3, 1) := by decide +kernel
theorem dB_holding_32 : decode cB_holding 32 = .ok (.invokevirtual 121, 3) := by decide +kernel
theorem dB_holding_35 : decode cB_holding 35 = .ok (.ifCond .eq 5, 3) := by decide +kernel
theorem dB_holding_38 : decode cB_holding 38 = .ok (.iload_n 3, 1) := by decide +kernel
theorem dB_holding_39 : decode cB_holding 39 = .ok (.ireturn, 1) := by decide +kernel
theorem dB_holding_40 : decode cB_holding 40 = .ok (.iinc 3 1, 3) := by decide +kernel
theorem dB_holding_43 : decode cB_holding 43 = .ok (.goto (-41), 3) := by decide +kernel
theorem dB_holding_46 : decode cB_holding 46 = .ok (.iconst (-1), 1) := by decide +kernel
theorem dB_holding_47 : decode cB_holding 47 = .ok (.ireturn, 1) := by decide +kernel
theorem dB_on_0 : decode cB_on 0 = .ok (.iconst (-1), 1) := by decide +kernel
theorem dB_on_1 : decode cB_on 1 = .ok (.istore_n 2, 1) := by decide +kernel
theorem dB_on_2 : decode cB_on 2 = .ok (.iconst 0, 1) := by decide +kernel
theorem dB_on_3 : decode cB_on 3 = .ok (.istore_n 3, 1) := by decide +kernel
theorem dB_on_4 : decode cB_on 4 = .ok (.iload_n 3, 1) := by decide +kernel
theorem dB_on_5 : decode cB_on 5 = .ok (.aload_n 0, 1) := by decide +kernel
theorem dB_on_6 : decode cB_on 6 = .ok (.getfield 99, 3) := by decide +kernel
theorem dB_on_9 : decode cB_on 9 = .ok (.if_icmp .ge 61, 3) := by decide +kernel
theorem dB_on_12 : decode cB_on 12 = .ok (.aload_n 0, 1) := by decide +kernel
theorem dB_on_13 : decode cB_on 13 = .ok (.getfield 68, 3) := by decide +kernel
theorem dB_on_16 : decode cB_on 16 = .ok (.iload_n 1, 1) := by decide +kernel
theorem dB_on_17 : decode cB_on 17 = .ok (.bipush 8, 2) := by decide +kernel
theorem dB_on_19 : decode cB_on 19 = .ok (.imul, 1) := by decide +kernel
theorem dB_on_20 : decode cB_on 20 = .ok (.iload_n 3, 1) := by decide +kernel
theorem dB_on_21 : decode cB_on 21 = .ok (.iadd, 1) := by decide +kernel
theorem dB_on_22 : decode cB_on 22 = .ok (.baload, 1) := by decide +kernel
theorem dB_on_23 : decode cB_on 23 = .ok (.ifCond .ne 41, 3) := by decide +kernel
theorem dB_on_26 : decode cB_on 26 = .ok (.aload_n 0, 1) := by decide +kernel
theorem dB_on_27 : decode cB_on 27 = .ok (.iload_n 3, 1) := by decide +kernel
theorem dB_on_28 : decode cB_on 28 = .ok (.aload_n 0, 1) := by decide +kernel
theorem dB_on_29 : decode cB_on 29 = .ok (.getfield 41, 3) := by decide +kernel
theorem dB_on_32 : decode cB_on 32 = .ok (.iload_n 1, 1) := by decide +kernel
theorem dB_on_33 : decode cB_on 33 = .ok (.iaload, 1) := by decide +kernel
theorem dB_on_34 : decode cB_on 34 = .ok (.invokevirtual 124, 3) := by decide +kernel
theorem dB_on_37 : decode cB_on 37 = .ok (.ifCond .ge 6, 3) := by decide +kernel
theorem dB_on_40 : decode cB_on 40 = .ok (.goto 24, 3) := by decide +kernel
theorem dB_on_43 : decode cB_on 43 = .ok (.iload_n 2, 1) := by decide +kernel
theorem dB_on_44 : decode cB_on 44 = .ok (.ifCond .lt 18, 3) := by decide +kernel
theorem dB_on_47 : decode cB_on 47 = .ok (.aload_n 0, 1) := by decide +kernel
theorem dB_on_48 : decode cB_on 48 = .ok (.getfield 7, 3) := by decide +kernel
theorem dB_on_51 : decode cB_on 51 = .ok (.iload_n 3, 1) := by decide +kernel
theorem dB_on_52 : decode cB_on 52 = .ok (.iaload, 1) := by decide +kernel
theorem dB_on_53 : decode cB_on 53 = .ok (.aload_n 0, 1) := by decide +kernel
theorem dB_on_54 : decode cB_on 54 = .ok (.getfield 7, 3) := by decide +kernel
theorem dB_on_57 : decode cB_on 57 = .ok (.iload_n 2, 1) := by decide +kernel
theorem dB_on_58 : decode cB_on 58 = .ok (.iaload, 1) := by decide +kernel
theorem dB_on_59 : decode cB_on 59 = .ok (.if_icmp .le 5, 3) := by decide +kernel
theorem dB_on_62 : decode cB_on 62 = .ok (.iload_n 3, 1) := by decide +kernel
theorem dB_on_63 : decode cB_on 63 = .ok (.istore_n 2, 1) := by decide +kernel
theorem dB_on_64 : decode cB_on 64 = .ok (.iinc 3 1, 3) := by decide +kernel
theorem dB_on_67 : decode cB_on 67 = .ok (.goto (-63), 3) := by decide +kernel
theorem dB_on_70 : decode cB_on 70 = .ok (.aload_n 0, 1) := by decide +kernel
theorem dB_on_71 : decode cB_on 71 = .ok (.getfield 53, 3) := by decide +kernel
theorem dB_on_74 : decode cB_on 74 = .ok (.iload_n 1, 1) := by decide +kernel
theorem dB_on_75 : decode cB_on 75 = .ok (.iload_n 2, 1) := by decide +kernel
theorem dB_on_76 : decode cB_on 76 = .ok (.iastore, 1) := by decide +kernel
theorem dB_on_77 : decode cB_on 77 = .ok (.aload_n 0, 1) := by decide +kernel
theorem dB_on_78 : decode cB_on 78 = .ok (.getfield 56, 3) := by decide +kernel
theorem dB_on_81 : decode cB_on 81 = .ok (.iload_n 1, 1) := by decide +kernel
theorem dB_on_82 : decode cB_on 82 = .ok (.iload_n 2, 1) := by decide +kernel
theorem dB_on_83 : decode cB_on 83 = .ok (.ifCond .ge 7, 3) := by decide +kernel
theorem dB_on_86 : decode cB_on 86 = .ok (.iconst 0, 1) := by decide +kernel
theorem dB_on_87 : decode cB_on 87 = .ok (.goto 7, 3) := by decide +kernel
theorem dB_on_90 : decode cB_on 90 = .ok (.aload_n 0, 1) := by decide +kernel
theorem dB_on_91 : decode cB_on 91 = .ok (.getfield 118, 3) := by decide +kernel
theorem dB_on_94 : decode cB_on 94 = .ok (.iastore, 1) := by decide +kernel
theorem dB_on_95 : decode cB_on 95 = .ok (.aload_n 0, 1) := by decide +kernel
theorem dB_on_96 : decode cB_on 96 = .ok (.getfield 65, 3) := by decide +kernel
theorem dB_on_99 : decode cB_on 99 = .ok (.iload_n 1, 1) := by decide +kernel
theorem dB_on_100 : decode cB_on 100 = .ok (.iload_n 2, 1) := by decide +kernel
theorem dB_on_101 : decode cB_on 101 = .ok (.ifCond .lt 16, 3) := by decide +kernel
theorem dB_on_104 : decode cB_on 104 = .ok (.aload_n 0, 1) := by decide +kernel
theorem dB_on_105 : decode cB_on 105 = .ok (.getfield 16, 3) := by decide +kernel
theorem dB_on_108 : decode cB_on 108 = .ok (.iload_n 2, 1) := by decide +kernel
theorem dB_on_109 : decode cB_on 109 = .ok (.baload, 1) := by decide +kernel
theorem dB_on_110 : decode cB_on 110 = .ok (.ifCond .eq 7, 3) := by decide +kernel
theorem dB_on_113 : decode cB_on 113 = .ok (.iconst 1, 1) := by decide +kernel
theorem dB_on_114 : decode cB_on 114 = .ok (.goto 4, 3) := by decide +kernel
theorem dB_on_117 : decode cB_on 117 = .ok (.iconst 0, 1) := by decide +kernel
theorem dB_on_118 : decode cB_on 118 = .ok (.bastore, 1) := by decide +kernel
theorem dB_on_119 : decode cB_on 119 = .ok (.iload_n 2, 1) := by decide +kernel
theorem dB_on_120 : decode cB_on 120 = .ok (.ifCond .ge 11, 3) := by decide +kernel
theorem dB_on_123 : decode cB_on 123 = .ok (.aload_n 0, 1) := by decide +kernel
theorem dB_on_124 : decode cB_on 124 = .ok (.getfield 50, 3) := by decide +kernel
theorem dB_on_127 : decode cB_on 127 = .ok (.iload_n 1, 1) := by decide +kernel
theorem dB_on_128 : decode cB_on 128 = .ok (.iconst 2, 1) := by decide +kernel
theorem dB_on_129 : decode cB_on 129 = .ok (.iastore, 1) := by decide +kernel
theorem dB_on_130 : decode cB_on 130 = .ok (.return_, 1) := by decide +kernel
theorem dB_on_131 : decode cB_on 131 = .ok (.aload_n 0, 1) := by decide +kernel
theorem dB_on_132 : decode cB_on 132 = .ok (.getfield 68, 3) := by decide +kernel
theorem dB_on_135 : decode cB_on 135 = .ok (.iload_n 1, 1) := by decide +kernel
theorem dB_on_136 : decode cB_on 136 = .ok (.bipush 8, 2) := by decide +kernel
theorem dB_on_138 : decode cB_on 138 = .ok (.imul, 1) := by decide +kernel
theorem dB_on_139 : decode cB_on 139 = .ok (.iload_n 2, 1) := by decide +kernel
theorem dB_on_140 : decode cB_on 140 = .ok (.iadd, 1) := by decide +kernel
theorem dB_on_141 : decode cB_on 141 = .ok (.iconst 1, 1) := by decide +kernel
theorem dB_on_142 : decode cB_on 142 = .ok (.bastore, 1) := by decide +kernel
theorem dB_on_143 : decode cB_on 143 = .ok (.aload_n 0, 1) := by decide +kernel
theorem dB_on_144 : decode cB_on 144 = .ok (.getfield 62, 3) := by decide +kernel
theorem dB_on_147 : decode cB_on 147 = .ok (.iload_n 1, 1) := by decide +kernel
theorem dB_on_148 : decode cB_on 148 = .ok (.dup2, 1) := by decide +kernel
theorem dB_on_149 : decode cB_on 149 = .ok (.iaload, 1) := by decide +kernel
theorem dB_on_150 : decode cB_on 150 = .ok (.iconst 1, 1) := by decide +kernel
theorem dB_on_151 : decode cB_on 151 = .ok (.iadd, 1) := by decide +kernel
theorem dB_on_152 : decode cB_on 152 = .ok (.iastore, 1) := by decide +kernel
theorem dB_on_153 : decode cB_on 153 = .ok (.return_, 1) := by decide +kernel
theorem dB_ask_0 : decode cB_ask 0 = .ok (.aload_n 0, 1) := by decide +kernel
theorem dB_ask_1 : decode cB_ask 1 = .ok (.bipush 11, 2) := by decide +kernel
theorem dB_ask_3 : decode cB_ask 3 = .ok (.iload_n 1, 1) := by decide +kernel
theorem dB_ask_4 : decode cB_ask 4 = .ok (.iconst 0, 1) := by decide +kernel
theorem dB_ask_5 : decode cB_ask 5 = .ok (.bipush 9, 2) := by decide +kernel
theorem dB_ask_7 : decode cB_ask 7 = .ok (.invokestatic 102, 3) := by decide +kernel
theorem dB_ask_10 : decode cB_ask 10 = .ok (.iload_n 2, 1) := by decide +kernel
theorem dB_ask_11 : decode cB_ask 11 = .ok (.iconst 1, 1) := by decide +kernel
theorem dB_ask_12 : decode cB_ask 12 = .ok (.bipush 20, 2) := by decide +kernel
theorem dB_ask_14 : decode cB_ask 14 = .ok (.invokestatic 102, 3) := by decide +kernel
theorem dB_ask_17 : decode cB_ask 17 = .ok (.ifCond .eq 18, 3) := by decide +kernel
theorem dB_ask_20 : decode cB_ask 20 = .ok (.iload_n 3, 1) := by decide +kernel
theorem dB_ask_21 : decode cB_ask 21 = .ok (.iconst 1, 1) := by decide +kernel
theorem dB_ask_22 : decode cB_ask 22 = .ok (.sipush 500, 3) := by decide +kernel
theorem dB_ask_25 : decode cB_ask 25 = .ok (.invokestatic 102, 3) := by decide +kernel
theorem dB_ask_28 : decode cB_ask 28 = .ok (.ifCond .eq 7, 3) := by decide +kernel
theorem dB_ask_31 : decode cB_ask 31 = .ok (.iconst 1, 1) := by decide +kernel
theorem dB_ask_32 : decode cB_ask 32 = .ok (.goto 4, 3) := by decide +kernel
theorem dB_ask_35 : decode cB_ask 35 = .ok (.iconst 0, 1) := by decide +kernel
theorem dB_ask_36 : decode cB_ask 36 = .ok (.iconst 1, 1) := by decide +kernel
theorem dB_ask_37 : decode cB_ask 37 = .ok (.aload_n 0, 1) := by decide +kernel
theorem dB_ask_38 : decode cB_ask 38 = .ok (.getfield 128, 3) := by decide +kernel
theorem dB_ask_41 : decode cB_ask 41 = .ok (.bipush 30, 2) := by decide +kernel
theorem dB_ask_43 : decode cB_ask 43 = .ok (.if_icmp .ge 7, 3) := by decide +kernel
theorem dB_ask_46 : decode cB_ask 46 = .ok (.iconst 1, 1) := by decide +kernel
theorem dB_ask_47 : decode cB_ask 47 = .ok (.goto 4, 3) := by decide +kernel
theorem dB_ask_50 : decode cB_ask 50 = .ok (.iconst 0, 1) := by decide +kernel
theorem dB_ask_51 : decode cB_ask 51 = .ok (.invokevirtual 106, 3) := by decide +kernel
theorem dB_ask_54 : decode cB_ask 54 = .ok (.ifCond .ne 5, 3) := by decide +kernel
theorem dB_ask_57 : decode cB_ask 57 = .ok (.iconst 0, 1) := by decide +kernel
theorem dB_ask_58 : decode cB_ask 58 = .ok (.ireturn, 1) := by decide +kernel
theorem dB_ask_59 : decode cB_ask 59 = .ok (.aload_n 0, 1) := by decide +kernel
theorem dB_ask_60 : decode cB_ask 60 = .ok (.getfield 41, 3) := by decide +kernel
theorem dB_ask_63 : decode cB_ask 63 = .ok (.aload_n 0, 1) := by decide +kernel
theorem dB_ask_64 : decode cB_ask 64 = .ok (.getfield 128, 3) := by decide +kernel
theorem dB_ask_67 : decode cB_ask 67 = .ok (.iload_n 1, 1) := by decide +kernel
theorem dB_ask_68 : decode cB_ask 68 = .ok (.iastore, 1) := by decide +kernel
theorem dB_ask_69 : decode cB_ask 69 = .ok (.aload_n 0, 1) := by decide +kernel
theorem dB_ask_70 : decode cB_ask 70 = .ok (.getfield 44, 3) := by decide +kernel
theorem dB_ask_73 : decode cB_ask 73 = .ok (.aload_n 0, 1) := by decide +kernel
theorem dB_ask_74 : decode cB_ask 74 = .ok (.getfield 128, 3) := by decide +kernel
theorem dB_ask_77 : decode cB_ask 77 = .ok (.iload_n 2, 1) := by decide +kernel
theorem dB_ask_78 : decode cB_ask 78 = .ok (.iastore, 1) := by decide +kernel
theorem dB_ask_79 : decode cB_ask 79 = .ok (.aload_n 0, 1) := by decide +kernel
theorem dB_ask_80 : decode cB_ask 80 = .ok (.getfield 47, 3) := by decide +kernel
theorem dB_ask_83 : decode cB_ask 83 = .ok (.aload_n 0, 1) := by decide +kernel
theorem dB_ask_84 : decode cB_ask 84 = .ok (.getfield 128, 3) := by decide +kernel
theorem dB_ask_87 : decode cB_ask 87 = .ok (.iload_n 3, 1) := by decide +kernel
theorem dB_ask_88 : decode cB_ask 88 = .ok (.iastore, 1) := by decide +kernel
theorem dB_ask_89 : decode cB_ask 89 = .ok (.aload_n 0, 1) := by decide +kernel
theorem dB_ask_90 : decode cB_ask 90 = .ok (.getfield 50, 3) := by decide +kernel
theorem dB_ask_93 : decode cB_ask 93 = .ok (.aload_n 0, 1) := by decide +kernel
theorem dB_ask_94 : decode cB_ask 94 = .ok (.getfield 128, 3) := by decide +kernel
theorem dB_ask_97 : decode cB_ask 97 = .ok (.iconst 0, 1) := by decide +kernel
theorem dB_ask_98 : decode cB_ask 98 = .ok (.iastore, 1) := by decide +kernel
theorem dB_ask_99 : decode cB_ask 99 = .ok (.aload_n 0, 1) := by decide +kernel
theorem dB_ask_100 : decode cB_ask 100 = .ok (.dup, 1) := by decide +kernel
theorem dB_ask_101 : decode cB_ask 101 = .ok (.getfield 128, 3) := by decide +kernel
theorem dB_ask_104 : decode cB_ask 104 = .ok (.iconst 1, 1) := by decide +kernel
theorem dB_ask_105 : decode cB_ask 105 = .ok (.iadd, 1) := by decide +kernel
theorem dB_ask_106 : decode cB_ask 106 = .ok (.putfield 128, 3) := by decide +kernel
theorem dB_ask_109 : decode cB_ask 109 = .ok (.aload_n 0, 1) := by decide +kernel
theorem dB_ask_110 : decode cB_ask 110 = .ok (.aload_n 0, 1) := by decide +kernel
theorem dB_ask_111 : decode cB_ask 111 = .ok (.getfield 128, 3) := by decide +kernel
theorem dB_ask_114 : decode cB_ask 114 = .ok (.iconst 1, 1) := by decide +kernel
theorem dB_ask_115 : decode cB_ask 115 = .ok (.isub, 1) := by decide +kernel
theorem dB_ask_116 : decode cB_ask 116 = .ok (.invokevirtual 131, 3) := by decide +kernel
theorem dB_ask_119 : decode cB_ask 119 = .ok (.aload_n 0, 1) := by decide +kernel
theorem dB_ask_120 : decode cB_ask 120 = .ok (.getfield 128, 3) := by decide +kernel
theorem dB_ask_123 : decode cB_ask 123 = .ok (.iconst 1, 1) := by decide +kernel
theorem dB_ask_124 : decode cB_ask 124 = .ok (.isub, 1) := by decide +kernel
theorem dB_ask_125 : decode cB_ask 125 = .ok (.ireturn, 1) := by decide +kernel
theorem dB_lent_0 : decode cB_lent 0 = .ok (.iconst 0, 1) := by decide +kernel
theorem dB_lent_1 : decode cB_lent 1 = .ok (.istore_n 2, 1) := by decide +kernel
theorem dB_lent_2 : decode cB_lent 2 = .ok (.iconst 0, 1) := by decide +kernel
theorem dB_lent_3 : decode cB_lent 3 = .ok (.istore_n 3, 1) := by decide +kernel
theorem dB_lent_4 : decode cB_lent 4 = .ok (.iload_n 3, 1) := by decide +kernel
theorem dB_lent_5 : decode cB_lent 5 = .ok (.aload_n 0, 1) := by decide +kernel
theorem dB_lent_6 : decode cB_lent 6 = .ok (.getfield 135, 3) := by decide +kernel
theorem dB_lent_9 : decode cB_lent 9 = .ok (.if_icmp .ge 31, 3) := by decide +kernel
theorem dB_lent_12 : decode cB_lent 12 = .ok (.aload_n 0, 1) := by decide +kernel
theorem dB_lent_13 : decode cB_lent 13 = .ok (.getfield 80, 3) := by decide +kernel
theorem dB_lent_16 : decode cB_lent 16 = .ok (.iload_n 3, 1) := by decide +kernel
theorem dB_lent_17 : decode cB_lent 17 = .ok (.iaload, 1) := by decide +kernel
theorem dB_lent_18 : decode cB_lent 18 = .ok (.iload_n 1, 1) := by decide +kernel
theorem dB_lent_19 : decode cB_lent 19 = .ok (.if_icmp .ne 15, 3) := by decide +kernel
theorem dB_lent_22 : decode cB_lent 22 = .ok (.aload_n 0, 1) := by decide +kernel
theorem dB_lent_23 : decode cB_lent 23 = .ok (.getfield 86, 3) := by decide +kernel
theorem dB_lent_26 : decode cB_lent 26 = .ok (.iload_n 3, 1) := by decide +kernel
theorem dB_lent_27 : decode cB_lent 27 = .ok (.iaload, 1) := by decide +kernel
theorem dB_lent_28 : decode cB_lent 28 = .ok (.ifCond .ge 6, 3) := by decide +kernel
theorem dB_lent_31 : decode cB_lent 31 = .ok (.iinc 2 1, 3) := by decide +kernel
theorem dB_lent_34 : decode cB_lent 34 = .ok (.iinc 3 1, 3) := by decide +kernel
theorem dB_lent_37 : decode cB_lent 37 = .ok (.goto (-33), 3) := by decide +kernel
theorem dB_lent_40 : decode cB_lent 40 = .ok (.iload_n 2, 1) := by decide +kernel
theorem dB_lent_41 : decode cB_lent 41 = .ok (.ireturn, 1) := by decide +kernel
theorem dB_freeName_0 : decode cB_freeName 0 = .ok (.iconst 0, 1) := by decide +kernel
theorem dB_freeName_1 : decode cB_freeName 1 = .ok (.istore_n 2, 1) := by decide +kernel
theorem dB_freeName_2 : decode cB_freeName 2 = .ok (.iconst 1, 1) := by decide +kernel
theorem dB_freeName_3 : decode cB_freeName 3 = .ok (.istore_n 3, 1) := by decide +kernel
theorem dB_freeName_4 : decode cB_freeName 4 = .ok (.iload_n 3, 1) := by decide +kernel
theorem dB_freeName_5 : decode cB_freeName 5 = .ok (.ifCond .eq 61, 3) := by decide +kernel
theorem dB_freeName_8 : decode cB_freeName 8 = .ok (.iconst 0, 1) := by decide +kernel
theorem dB_freeName_9 : decode cB_freeName 9 = .ok (.istore_n 3, 1) := by decide +kernel
theorem dB_freeName_10 : decode cB_freeName 10 = .ok (.iconst 0, 1) := by decide +kernel
theorem dB_freeName_11 : decode cB_freeName 11 = .ok (.istore 4, 2) := by decide +kernel
theorem dB_freeName_13 : decode cB_freeName 13 = .ok (.iload 4, 2) := by decide +kernel
theorem dB_freeName_15 : decode cB_freeName 15 = .ok (.aload_n 0, 1) := by decide +kernel
theorem dB_freeName_16 : decode cB_freeName 16 = .ok (.getfield 135, 3) := by decide +kernel
theorem dB_freeName_19 : decode cB_freeName 19 = .ok (.if_icmp .ge 37, 3) := by decide +kernel
theorem dB_freeName_22 : decode cB_freeName 22 = .ok (.aload_n 0, 1) := by decide +kernel
theorem dB_freeName_23 : decode cB_freeName 23 = .ok (.getfield 86, 3) := by decide +kernel
theorem dB_freeName_26 : decode cB_freeName 26 = .ok (.iload 4, 2) := by decide +kernel
theorem dB_freeName_28 : decode cB_freeName 28 = .ok (.iaload, 1) := by decide +kernel
theorem dB_freeName_29 : decode cB_freeName 29 = .ok (.ifCond .ge 21, 3) := by decide +kernel
theorem dB_freeName_32 : decode cB_freeName 32 = .ok (.aload_n 0, 1) := by decide +kernel
theorem dB_freeName_33 : decode cB_freeName 33 = .ok (.getfield 74, 3) := by decide +kernel
theorem dB_freeName_36 : decode cB_freeName 36 = .ok (.iload 4, 2) := by decide +kernel
theorem dB_freeName_38 : decode cB_freeName 38 = .ok (.iaload, 1) := by decide +kernel
theorem dB_freeName_39 : decode cB_freeName 39 = .ok (.bipush 100, 2) := by decide +kernel
theorem dB_freeName_41 : decode cB_freeName 41 = .ok (.iload_n 1, 1) := by decide +kernel
theorem dB_freeName_42 : decode cB_freeName 42 = .ok (.imul, 1) := by decide +kernel
theorem dB_freeName_43 : decode cB_freeName 43 = .ok (.iload_n 2, 1) := by decide +kernel
theorem dB_freeName_44 : decode cB_freeName 44 = .ok (.iadd, 1) := by decide +kernel
theorem dB_freeName_45 : decode cB_freeName 45 = .ok (.if_icmp .ne 5, 3) := by decide +kernel
theorem dB_freeName_48 : decode cB_freeName 48 = .ok (.iconst 1, 1) := by decide +kernel
theorem dB_freeName_49 : decode cB_freeName 49 = .ok (.istore_n 3, 1) := by decide +kernel
theorem dB_freeName_50 : decode cB_freeName 50 = .ok (.iinc 4 1, 3) := by decide +kernel
theorem dB_freeName_53 : decode cB_freeName 53 = .ok (.goto (-40), 3) := by decide +kernel
theorem dB_freeName_56 : decode cB_freeName 56 = .ok (.iload_n 3, 1) := by decide +kernel
theorem dB_freeName_57 : decode cB_freeName 57 = .ok (.ifCond .eq (-53), 3) := by decide +kernel
theorem dB_freeName_60 : decode cB_freeName 60 = .ok (.iinc 2 1, 3) := by decide +kernel
theorem dB_freeName_63 : decode cB_freeName 63 = .ok (.goto (-59), 3) := by decide +kernel
theorem dB_freeName_66 : decode cB_freeName 66 = .ok (.bipush 100, 2) := by decide +kernel
theorem dB_freeName_68 : decode cB_freeName 68 = .ok (.iload_n 1, 1) := by decide +kernel
theorem dB_freeName_69 : decode cB_freeName 69 = .ok (.imul, 1) := by decide +kernel
theorem dB_freeName_70 : decode cB_freeName 70 = .ok (.iload_n 2, 1) := by decide +kernel
theorem dB_freeName_71 : decode cB_freeName 71 = .ok (.iadd, 1) := by decide +kernel
theorem dB_freeName_72 : decode cB_freeName 72 = .ok (.ireturn, 1) := by decide +kernel
theorem dB_lend_0 : decode cB_lend 0 = .ok (.aload_n 0, 1) := by decide +kernel
theorem dB_lend_1 : decode cB_lend 1 = .ok (.iload_n 2, 1) := by decide +kernel
theorem dB_lend_2 : decode cB_lend 2 = .ok (.aload_n 0, 1) := by decide +kernel
theorem dB_lend_3 : decode cB_lend 3 = .ok (.getfield 41, 3) := by decide +kernel
theorem dB_lend_6 : decode cB_lend 6 = .ok (.iload_n 1, 1) := by decide +kernel
theorem dB_lend_7 : decode cB_lend 7 = .ok (.iaload, 1) := by decide +kernel
theorem dB_lend_8 : decode cB_lend 8 = .ok (.invokevirtual 124, 3) := by decide +kernel
theorem dB_lend_11 : decode cB_lend 11 = .ok (.istore 5, 2) := by decide +kernel
theorem dB_lend_13 : decode cB_lend 13 = .ok (.iconst 0, 1) := by decide +kernel
theorem dB_lend_14 : decode cB_lend 14 = .ok (.istore 6, 2) := by decide +kernel
theorem dB_lend_16 : decode cB_lend 16 = .ok (.iload 6, 2) := by decide +kernel
theorem dB_lend_18 : decode cB_lend 18 = .ok (.iload_n 3, 1) := by decide +kernel
theorem dB_lend_19 : decode cB_lend 19 = .ok (.if_icmp .ge 90, 3) := by decide +kernel
theorem dB_lend_22 : decode cB_lend 22 = .ok (.aload_n 0, 1) := by decide +kernel
theorem dB_lend_23 : decode cB_lend 23 = .ok (.getfield 71, 3) := by decide +kernel
theorem dB_lend_26 : decode cB_lend 26 = .ok (.aload_n 0, 1) := by decide +kernel
theorem dB_lend_27 : decode cB_lend 27 = .ok (.getfield 135, 3) := by decide +kernel
theorem dB_lend_30 : decode cB_lend 30 = .ok (.iload_n 2, 1) := by decide +kernel
theorem dB_lend_31 : decode cB_lend 31 = .ok (.iastore, 1) := by decide +kernel
theorem dB_lend_32 : decode cB_lend 32 = .ok (.aload_n 0, 1) := by decide +kernel
theorem dB_lend_33 : decode cB_lend 33 = .ok (.getfield 74, 3) := by decide +kernel
theorem dB_lend_36 : decode cB_lend 36 = .ok (.aload_n 0, 1) := by decide +kernel
theorem dB_lend_37 : decode cB_lend 37 = .ok (.getfield 135, 3) := by decide +kernel
theorem dB_lend_40 : decode cB_lend 40 = .ok (.aload_n 0, 1) := by decide +kernel
theorem dB_lend_41 : decode cB_lend 41 = .ok (.iload_n 2, 1) := by decide +kernel
theorem dB_lend_42 : decode cB_lend 42 = .ok (.invokevirtual 138, 3) := by decide +kernel
theorem dB_lend_45 : decode cB_lend 45 = .ok (.iastore, 1) := by decide +kernel
theorem dB_lend_46 : decode cB_lend 46 = .ok (.aload_n 0, 1) := by decide +kernel
theorem dB_lend_47 : decode cB_lend 47 = .ok (.getfield 77, 3) := by decide +kernel
theorem dB_lend_50 : decode cB_lend 50 = .ok (.aload_n 0, 1) := by decide +kernel
theorem dB_lend_51 : decode cB_lend 51 = .ok (.getfield 135, 3) := by decide +kernel
theorem dB_lend_54 : decode cB_lend 54 = .ok (.iload_n 1, 1) := by decide +kernel
theorem dB_lend_55 : decode cB_lend 55 = .ok (.iastore, 1) := by decide +kernel
theorem dB_lend_56 : decode cB_lend 56 = .ok (.aload_n 0, 1) := by decide +kernel
theorem dB_lend_57 : decode cB_lend 57 = .ok (.getfield 80, 3) := by decide +kernel
theorem dB_lend_60 : decode cB_lend 60 = .ok (.aload_n 0, 1) := by decide +kernel
theorem dB_lend_61 : decode cB_lend 61 = .ok (.getfield 135, 3) := by decide +kernel
theorem dB_lend_64 : decode cB_lend 64 = .ok (.iload 5, 2) := by decide +kernel
theorem dB_lend_66 : decode cB_lend 66 = .ok (.iastore, 1) := by decide +kernel
theorem dB_lend_67 : decode cB_lend 67 = .ok (.aload_n 0, 1) := by decide +kernel
theorem dB_lend_68 : decode cB_lend 68 = .ok (.getfield 83, 3) := by decide +kernel
theorem dB_lend_71 : decode cB_lend 71 = .ok (.aload_n 0, 1) := by decide +kernel
theorem dB_lend_72 : decode cB_lend 72 = .ok (.getfield 135, 3) := by decide +kernel
theorem dB_lend_75 : decode cB_lend 75 = .ok (.aload_n 0, 1) := by decide +kernel
theorem dB_lend_76 : decode cB_lend 76 = .ok (.getfield 118, 3) := by decide +kernel
theorem dB_lend_79 : decode cB_lend 79 = .ok (.iload 4, 2) := by decide +kernel
theorem dB_lend_81 : decode cB_lend 81 = .ok (.iadd, 1) := by decide +kernel
theorem dB_lend_82 : decode cB_lend 82 = .ok (.iastore, 1) := by decide +kernel
theorem dB_lend_83 : decode cB_lend 83 = .ok (.aload_n 0, 1) := by decide +kernel
theorem dB_lend_84 : decode cB_lend 84 = .ok (.getfield 86, 3) := by decide +kernel
theorem dB_lend_87 : decode cB_lend 87 = .ok (.aload_n 0, 1) := by decide +kernel
theorem dB_lend_88 : decode cB_lend 88 = .ok (.getfield 135, 3) := by decide +kernel
theorem dB_lend_91 : decode cB_lend 91 = .ok (.iconst (-1), 1) := by decide +kernel
theorem dB_lend_92 : decode cB_lend 92 = .ok (.iastore, 1) := by decide +kernel
theorem dB_lend_93 : decode cB_lend 93 = .ok (.aload_n 0, 1) := by decide +kernel
theorem dB_lend_94 : decode cB_lend 94 = .ok (.dup, 1) := by decide +kernel
theorem dB_lend_95 : decode cB_lend 95 = .ok (.getfield 135, 3) := by decide +kernel
theorem dB_lend_98 : decode cB_lend 98 = .ok (.iconst 1, 1) := by decide +kernel
theorem dB_lend_99 : decode cB_lend 99 = .ok (.iadd, 1) := by decide +kernel
theorem dB_lend_100 : decode cB_lend 100 = .ok (.putfield 135, 3) := by decide +kernel
theorem dB_lend_103 : decode cB_lend 103 = .ok (.iinc 6 1, 3) := by decide +kernel
theorem dB_lend_106 : decode cB_lend 106 = .ok (.goto (-90), 3) := by decide +kernel
theorem dB_lend_109 : decode cB_lend 109 = .ok (.aload_n 0, 1) := by decide +kernel
theorem dB_lend_110 : decode cB_lend 110 = .ok (.getfield 59, 3) := by decide +kernel
theorem dB_lend_113 : decode cB_lend 113 = .ok (.iload_n 1, 1) := by decide +kernel
theorem dB_lend_114 : decode cB_lend 114 = .ok (.aload_n 0, 1) := by decide +kernel
theorem dB_lend_115 : decode cB_lend 115 = .ok (.getfield 59, 3) := by decide +kernel
theorem dB_lend_118 : decode cB_lend 118 = .ok (.iload_n 1, 1) := by decide +kernel
theorem dB_lend_119 : decode cB_lend 119 = .ok (.iaload, 1) := by decide +kernel
theorem dB_lend_120 : decode cB_lend 120 = .ok (.iload_n 3, 1) := by decide +kernel
theorem dB_lend_121 : decode cB_lend 121 = .ok (.iadd, 1) := by decide +kernel
theorem dB_lend_122 : decode cB_lend 122 = .ok (.iastore, 1) := by decide +kernel
theorem dB_lend_123 : decode cB_lend 123 = .ok (.aload_n 0, 1) := by decide +kernel
theorem dB_lend_124 : decode cB_lend 124 = .ok (.getfield 59, 3) := by decide +kernel
theorem dB_lend_127 : decode cB_lend 127 = .ok (.iload_n 1, 1) := by decide +kernel
theorem dB_lend_128 : decode cB_lend 128 = .ok (.iaload, 1) := by decide +kernel
theorem dB_lend_129 : decode cB_lend 129 = .ok (.aload_n 0, 1) := by decide +kernel
theorem dB_lend_130 : decode cB_lend 130 = .ok (.getfield 44, 3) := by decide +kernel
theorem dB_lend_133 : decode cB_lend 133 = .ok (.iload_n 1, 1) := by decide +kernel
theorem dB_lend_134 : decode cB_lend 134 = .ok (.iaload, 1) := by decide +kernel
theorem dB_lend_135 : decode cB_lend 135 = .ok (.if_icmp .ge 9, 3) := by decide +kernel
theorem dB_lend_138 : decode cB_lend 138 = .ok (.aload_n 0, 1) := by decide +kernel
theorem dB_lend_139 : decode cB_lend 139 = .ok (.iload_n 1, 1) := by decide +kernel
theorem dB_lend_140 : decode cB_lend 140 = .ok (.invokevirtual 131, 3) := by decide +kernel
theorem dB_lend_143 : decode cB_lend 143 = .ok (.return_, 1) := by decide +kernel
theorem dB_lend_144 : decode cB_lend 144 = .ok (.aload_n 0, 1) := by decide +kernel
theorem dB_lend_145 : decode cB_lend 145 = .ok (.getfield 50, 3) := by decide +kernel
theorem dB_lend_148 : decode cB_lend 148 = .ok (.iload_n 1, 1) := by decide +kernel
theorem dB_lend_149 : decode cB_lend 149 = .ok (.iconst 1, 1) := by decide +kernel
theorem dB_lend_150 : decode cB_lend 150 = .ok (.iastore, 1) := by decide +kernel
theorem dB_lend_151 : decode cB_lend 151 = .ok (.aload_n 0, 1) := by decide +kernel
theorem dB_lend_152 : decode cB_lend 152 = .ok (.getfield 53, 3) := by decide +kernel
theorem dB_lend_155 : decode cB_lend 155 = .ok (.iload_n 1, 1) := by decide +kernel
theorem dB_lend_156 : decode cB_lend 156 = .ok (.iconst (-1), 1) := by decide +kernel
theorem dB_lend_157 : decode cB_lend 157 = .ok (.iastore, 1) := by decide +kernel
theorem dB_lend_158 : decode cB_lend 158 = .ok (.aload_n 0, 1) := by decide +kernel
theorem dB_lend_159 : decode cB_lend 159 = .ok (.getfield 56, 3) := by decide +kernel
theorem dB_lend_162 : decode cB_lend 162 = .ok (.iload_n 1, 1) := by decide +kernel
theorem dB_lend_163 : decode cB_lend 163 = .ok (.iconst 0, 1) := by decide +kernel
theorem dB_lend_164 : decode cB_lend 164 = .ok (.iastore, 1) := by decide +kernel
theorem dB_lend_165 : decode cB_lend 165 = .ok (.aload_n 0, 1) := by decide +kernel
theorem dB_lend_166 : decode cB_lend 166 = .ok (.getfield 65, 3) := by decide +kernel
theorem dB_lend_169 : decode cB_lend 169 = .ok (.iload_n 1, 1) := by decide +kernel
theorem dB_lend_170 : decode cB_lend 170 = .ok (.iconst 0, 1) := by decide +kernel
theorem dB_lend_171 : decode cB_lend 171 = .ok (.bastore, 1) := by decide +kernel
theorem dB_lend_172 : decode cB_lend 172 = .ok (.return_, 1) := by decide +kernel
theorem dB_what_0 : decode cB_what 0 = .ok (.aload_n 0, 1) := by decide +kernel
theorem dB_what_1 : decode cB_what 1 = .ok (.getfield 50, 3) := by decide +kernel
theorem dB_what_4 : decode cB_what 4 = .ok (.iload_n 1, 1) := by decide +kernel
theorem dB_what_5 : decode cB_what 5 = .ok (.iaload, 1) := by decide +kernel
theorem dB_what_6 : decode cB_what 6 = .ok (.ifCond .ne 13, 3) := by decide +kernel
theorem dB_what_9 : decode cB_what 9 = .ok (.aload_n 0, 1) := by decide +kernel
theorem dB_what_10 : decode cB_what 10 = .ok (.getfield 53, 3) := by decide +kernel
theorem dB_what_13 : decode cB_what 13 = .ok (.iload_n 1, 1) := by decide +kernel
theorem dB_what_14 : decode cB_what 14 = .ok (.iaload, 1) := by decide +kernel
theorem dB_what_15 : decode cB_what 15 = .ok (.iload_n 2, 1) := by decide +kernel
theorem dB_what_16 : decode cB_what 16 = .ok (.if_icmp .eq 5, 3) := by decide +kernel
theorem dB_what_19 : decode cB_what 19 = .ok (.iconst 3, 1) := by decide +kernel
theorem dB_what_20 : decode cB_what 20 = .ok (.ireturn, 1) := by decide +kernel
theorem dB_what_21 : decode cB_what 21 = .ok (.aload_n 0, 1) := by decide +kernel
theorem dB_what_22 : decode cB_what 22 = .ok (.iload_n 2, 1) := by decide +kernel
theorem dB_what_23 : decode cB_what 23 = .ok (.aload_n 0, 1) := by decide +kernel
theorem dB_what_24 : decode cB_what 24 = .ok (.getfield 41, 3) := by decide +kernel
theorem dB_what_27 : decode cB_what 27 = .ok (.iload_n 1, 1) := by decide +kernel
theorem dB_what_28 : decode cB_what 28 = .ok (.iaload, 1) := by decide +kernel
theorem dB_what_29 : decode cB_what 29 = .ok (.invokevirtual 124, 3) := by decide +kernel
theorem dB_what_32 : decode cB_what 32 = .ok (.istore 4, 2) := by decide +kernel
theorem dB_what_34 : decode cB_what 34 = .ok (.iload_n 3, 1) := by decide +kernel
theorem dB_what_35 : decode cB_what 35 = .ok (.ifCond .le 45, 3) := by decide +kernel
theorem dB_what_38 : decode cB_what 38 = .ok (.iload_n 3, 1) := by decide +kernel
theorem dB_what_39 : decode cB_what 39 = .ok (.aload_n 0, 1) := by decide +kernel
theorem dB_what_40 : decode cB_what 40 = .ok (.getfield 44, 3) := by decide +kernel
theorem dB_what_43 : decode cB_what 43 = .ok (.iload_n 1, 1) := by decide +kernel
theorem dB_what_44 : decode cB_what 44 = .ok (.iaload, 1) := by decide +kernel
theorem dB_what_45 : decode cB_what 45 = .ok (.aload_n 0, 1) := by decide +kernel
theorem dB_what_46 : decode cB_what 46 = .ok (.getfield 59, 3) := by decide +kernel
theorem dB_what_49 : decode cB_what 49 = .ok (.iload_n 1, 1) := by decide +kernel
theorem dB_what_50 : decode cB_what 50 = .ok (.iaload, 1) := by decide +kernel
theorem dB_what_51 : decode cB_what 51 = .ok (.isub, 1) := by decide +kernel
theorem dB_what_52 : decode cB_what 52 = .ok (.if_icmp .gt 26, 3) := by decide +kernel
theorem dB_what_55 : decode cB_what 55 = .ok (.iload 4, 2) := by decide +kernel
theorem dB_what_57 : decode cB_what 57 = .ok (.ifCond .lt 21, 3) := by decide +kernel
theorem dB_what_60 : decode cB_what 60 = .ok (.iload_n 3, 1) := by decide +kernel
theorem dB_what_61 : decode cB_what 61 = .ok (.aload_n 0, 1) := by decide +kernel
theorem dB_what_62 : decode cB_what 62 = .ok (.getfield 38, 3) := by decide +kernel
theorem dB_what_65 : decode cB_what 65 = .ok (.iload 4, 2) := by decide +kernel
theorem dB_what_67 : decode cB_what 67 = .ok (.iaload, 1) := by decide +kernel
theorem dB_what_68 : decode cB_what 68 = .ok (.aload_n 0, 1) := by decide +kernel
theorem dB_what_69 : decode cB_what 69 = .ok (.iload 4, 2) := by decide +kernel
theorem dB_what_71 : decode cB_what 71 = .ok (.invokevirtual 142, 3) := by decide +kernel
theorem dB_what_74 : decode cB_what 74 = .ok (.isub, 1) := by decide +kernel
theorem dB_what_75 : decode cB_what 75 = .ok (.if_icmp .le 5, 3) := by decide +kernel
theorem dB_what_78 : decode cB_what 78 = .ok (.iconst 4, 1) := by decide +kernel
theorem dB_what_79 : decode cB_what 79 = .ok (.ireturn, 1) := by decide +kernel
theorem dB_what_80 : decode cB_what 80 = .ok (.iconst 1, 1) := by decide +kernel
theorem dB_what_81 : decode cB_what 81 = .ok (.ireturn, 1) := by decide +kernel
theorem dB_message_0 : decode cB_message 0 = .ok (.iload_n 1, 1) := by decide +kernel
theorem dB_message_1 : decode cB_message 1 = .ok (.iconst 0, 1) := by decide +kernel
theorem dB_message_2 : decode cB_message 2 = .ok (.aload_n 0, 1) := by decide +kernel
theorem dB_message_3 : decode cB_message 3 = .ok (.getfield 128, 3) := by decide +kernel
theorem dB_message_6 : decode cB_message 6 = .ok (.iconst 1, 1) := by decide +kernel
theorem dB_message_7 : decode cB_message 7 = .ok (.isub, 1) := by decide +kernel
theorem dB_message_8 : decode cB_message 8 = .ok (.invokestatic 102, 3) := by decide +kernel
theorem dB_message_11 : decode cB_message 11 = .ok (.ifCond .eq 15, 3) := by decide +kernel
theorem dB_message_14 : decode cB_message 14 = .ok (.aload_n 0, 1) := by decide +kernel
theorem dB_message_15 : decode cB_message 15 = .ok (.iload_n 2, 1) := by decide +kernel
theorem dB_message_16 : decode cB_message 16 = .ok (.invokevirtual 110, 3) := by decide +kernel
theorem dB_message_19 : decode cB_message 19 = .ok (.ifCond .eq 7, 3) := by decide +kernel
theorem dB_message_22 : decode cB_message 22 = .ok (.iconst 1, 1) := by decide +kernel
theorem dB_message_23 : decode cB_message 23 = .ok (.goto 4, 3) := by decide +kernel
theorem dB_message_26 : decode cB_message 26 = .ok (.iconst 0, 1) := by decide +kernel
theorem dB_message_27 : decode cB_message 27 = .ok (.istore 6, 2) := by decide +kernel
theorem dB_message_29 : decode cB_message 29 = .ok (.iload_n 3, 1) := by decide +kernel
theorem dB_message_30 : decode cB_message 30 = .ok (.iconst 0, 1) := by decide +kernel
