theorem dB_message_31 : decode cB_message 31 = .ok (.sipush 999, 3) := by decide +kernel
theorem dB_message_34 : decode cB_message 34 = .ok (.invokestatic 102, 3) := by decide +kernel
theorem dB_message_37 : decode cB_message 37 = .ok (.ifCond .eq 35, 3) := by decide +kernel
theorem dB_message_40 : decode cB_message 40 = .ok (.iload 4, 2) := by decide +kernel
theorem dB_message_42 : decode cB_message 42 = .ok (.iconst 0, 1) := by decide +kernel
theorem dB_message_43 : decode cB_message 43 = .ok (.bipush 20, 2) := by decide +kernel
theorem dB_message_45 : decode cB_message 45 = .ok (.invokestatic 102, 3) := by decide +kernel
theorem dB_message_48 : decode cB_message 48 = .ok (.ifCond .eq 24, 3) := by decide +kernel
theorem dB_message_51 : decode cB_message 51 = .ok (.iload 4, 2) := by decide +kernel
theorem dB_message_53 : decode cB_message 53 = .ok (.ifCond .eq 15, 3) := by decide +kernel
theorem dB_message_56 : decode cB_message 56 = .ok (.iload 5, 2) := by decide +kernel
theorem dB_message_58 : decode cB_message 58 = .ok (.iconst 0, 1) := by decide +kernel
theorem dB_message_59 : decode cB_message 59 = .ok (.sipush 999, 3) := by decide +kernel
theorem dB_message_62 : decode cB_message 62 = .ok (.invokestatic 102, 3) := by decide +kernel
theorem dB_message_65 : decode cB_message 65 = .ok (.ifCond .eq 7, 3) := by decide +kernel
theorem dB_message_68 : decode cB_message 68 = .ok (.iconst 1, 1) := by decide +kernel
theorem dB_message_69 : decode cB_message 69 = .ok (.goto 4, 3) := by decide +kernel
theorem dB_message_72 : decode cB_message 72 = .ok (.iconst 0, 1) := by decide +kernel
theorem dB_message_73 : decode cB_message 73 = .ok (.istore 7, 2) := by decide +kernel
theorem dB_message_75 : decode cB_message 75 = .ok (.iload 6, 2) := by decide +kernel
theorem dB_message_77 : decode cB_message 77 = .ok (.ifCond .eq 16, 3) := by decide +kernel
theorem dB_message_80 : decode cB_message 80 = .ok (.aload_n 0, 1) := by decide +kernel
theorem dB_message_81 : decode cB_message 81 = .ok (.getfield 16, 3) := by decide +kernel
theorem dB_message_84 : decode cB_message 84 = .ok (.iload_n 2, 1) := by decide +kernel
theorem dB_message_85 : decode cB_message 85 = .ok (.baload, 1) := by decide +kernel
theorem dB_message_86 : decode cB_message 86 = .ok (.ifCond .ne 7, 3) := by decide +kernel
theorem dB_message_89 : decode cB_message 89 = .ok (.iconst 1, 1) := by decide +kernel
theorem dB_message_90 : decode cB_message 90 = .ok (.goto 4, 3) := by decide +kernel
theorem dB_message_93 : decode cB_message 93 = .ok (.iconst 0, 1) := by decide +kernel
theorem dB_message_94 : decode cB_message 94 = .ok (.istore 8, 2) := by decide +kernel
theorem dB_message_96 : decode cB_message 96 = .ok (.iload 8, 2) := by decide +kernel
theorem dB_message_98 : decode cB_message 98 = .ok (.ifCond .eq 27, 3) := by decide +kernel
theorem dB_message_101 : decode cB_message 101 = .ok (.iload 7, 2) := by decide +kernel
theorem dB_message_103 : decode cB_message 103 = .ok (.ifCond .eq 22, 3) := by decide +kernel
theorem dB_message_106 : decode cB_message 106 = .ok (.aload_n 0, 1) := by decide +kernel
theorem dB_message_107 : decode cB_message 107 = .ok (.getfield 89, 3) := by decide +kernel
theorem dB_message_110 : decode cB_message 110 = .ok (.sipush 1000, 3) := by decide +kernel
theorem dB_message_113 : decode cB_message 113 = .ok (.iload_n 2, 1) := by decide +kernel
theorem dB_message_114 : decode cB_message 114 = .ok (.imul, 1) := by decide +kernel
theorem dB_message_115 : decode cB_message 115 = .ok (.iload_n 3, 1) := by decide +kernel
theorem dB_message_116 : decode cB_message 116 = .ok (.iadd, 1) := by decide +kernel
theorem dB_message_117 : decode cB_message 117 = .ok (.iaload, 1) := by decide +kernel
theorem dB_message_118 : decode cB_message 118 = .ok (.ifCond .ne 7, 3) := by decide +kernel
theorem dB_message_121 : decode cB_message 121 = .ok (.iconst 1, 1) := by decide +kernel
theorem dB_message_122 : decode cB_message 122 = .ok (.goto 4, 3) := by decide +kernel
theorem dB_message_125 : decode cB_message 125 = .ok (.iconst 0, 1) := by decide +kernel
theorem dB_message_126 : decode cB_message 126 = .ok (.istore 9, 2) := by decide +kernel
theorem dB_message_128 : decode cB_message 128 = .ok (.iload 9, 2) := by decide +kernel
theorem dB_message_130 : decode cB_message 130 = .ok (.ifCond .eq 14, 3) := by decide +kernel
theorem dB_message_133 : decode cB_message 133 = .ok (.aload_n 0, 1) := by decide +kernel
theorem dB_message_134 : decode cB_message 134 = .ok (.iload_n 1, 1) := by decide +kernel
theorem dB_message_135 : decode cB_message 135 = .ok (.iload_n 2, 1) := by decide +kernel
theorem dB_message_136 : decode cB_message 136 = .ok (.iload 4, 2) := by decide +kernel
theorem dB_message_138 : decode cB_message 138 = .ok (.invokevirtual 145, 3) := by decide +kernel
theorem dB_message_141 : decode cB_message 141 = .ok (.goto 13, 3) := by decide +kernel
theorem dB_message_144 : decode cB_message 144 = .ok (.iload 8, 2) := by decide +kernel
theorem dB_message_146 : decode cB_message 146 = .ok (.ifCond .eq 7, 3) := by decide +kernel
theorem dB_message_149 : decode cB_message 149 = .ok (.iconst 2, 1) := by decide +kernel
theorem dB_message_150 : decode cB_message 150 = .ok (.goto 4, 3) := by decide +kernel
theorem dB_message_153 : decode cB_message 153 = .ok (.iconst 5, 1) := by decide +kernel
theorem dB_message_154 : decode cB_message 154 = .ok (.istore 10, 2) := by decide +kernel
theorem dB_message_156 : decode cB_message 156 = .ok (.aload_n 0, 1) := by decide +kernel
theorem dB_message_157 : decode cB_message 157 = .ok (.bipush 11, 2) := by decide +kernel
theorem dB_message_159 : decode cB_message 159 = .ok (.iload 6, 2) := by decide +kernel
theorem dB_message_161 : decode cB_message 161 = .ok (.iload 7, 2) := by decide +kernel
theorem dB_message_163 : decode cB_message 163 = .ok (.iconst 1, 1) := by decide +kernel
theorem dB_message_164 : decode cB_message 164 = .ok (.iload 10, 2) := by decide +kernel
theorem dB_message_166 : decode cB_message 166 = .ok (.iconst 1, 1) := by decide +kernel
theorem dB_message_167 : decode cB_message 167 = .ok (.if_icmp .ne 15, 3) := by decide +kernel
theorem dB_message_170 : decode cB_message 170 = .ok (.aload_n 0, 1) := by decide +kernel
theorem dB_message_171 : decode cB_message 171 = .ok (.getfield 135, 3) := by decide +kernel
theorem dB_message_174 : decode cB_message 174 = .ok (.iload 4, 2) := by decide +kernel
theorem dB_message_176 : decode cB_message 176 = .ok (.iadd, 1) := by decide +kernel
theorem dB_message_177 : decode cB_message 177 = .ok (.bipush 100, 2) := by decide +kernel
theorem dB_message_179 : decode cB_message 179 = .ok (.if_icmp .gt 7, 3) := by decide +kernel
theorem dB_message_182 : decode cB_message 182 = .ok (.iconst 1, 1) := by decide +kernel
theorem dB_message_183 : decode cB_message 183 = .ok (.goto 4, 3) := by decide +kernel
theorem dB_message_186 : decode cB_message 186 = .ok (.iconst 0, 1) := by decide +kernel
theorem dB_message_187 : decode cB_message 187 = .ok (.invokevirtual 106, 3) := by decide +kernel
theorem dB_message_190 : decode cB_message 190 = .ok (.ifCond .ne 5, 3) := by decide +kernel
theorem dB_message_193 : decode cB_message 193 = .ok (.iconst 0, 1) := by decide +kernel
theorem dB_message_194 : decode cB_message 194 = .ok (.ireturn, 1) := by decide +kernel
theorem dB_message_195 : decode cB_message 195 = .ok (.iload 10, 2) := by decide +kernel
theorem dB_message_197 : decode cB_message 197 = .ok (.iconst 5, 1) := by decide +kernel
theorem dB_message_198 : decode cB_message 198 = .ok (.if_icmp .ne 13, 3) := by decide +kernel
theorem dB_message_201 : decode cB_message 201 = .ok (.aload_n 0, 1) := by decide +kernel
theorem dB_message_202 : decode cB_message 202 = .ok (.dup, 1) := by decide +kernel
theorem dB_message_203 : decode cB_message 203 = .ok (.getfield 149, 3) := by decide +kernel
theorem dB_message_206 : decode cB_message 206 = .ok (.iconst 1, 1) := by decide +kernel
theorem dB_message_207 : decode cB_message 207 = .ok (.iadd, 1) := by decide +kernel
theorem dB_message_208 : decode cB_message 208 = .ok (.putfield 149, 3) := by decide +kernel
theorem dB_message_211 : decode cB_message 211 = .ok (.iload 10, 2) := by decide +kernel
theorem dB_message_213 : decode cB_message 213 = .ok (.iconst 2, 1) := by decide +kernel
theorem dB_message_214 : decode cB_message 214 = .ok (.if_icmp .ne 13, 3) := by decide +kernel
theorem dB_message_217 : decode cB_message 217 = .ok (.aload_n 0, 1) := by decide +kernel
theorem dB_message_218 : decode cB_message 218 = .ok (.dup, 1) := by decide +kernel
theorem dB_message_219 : decode cB_message 219 = .ok (.getfield 152, 3) := by decide +kernel
theorem dB_message_222 : decode cB_message 222 = .ok (.iconst 1, 1) := by decide +kernel
theorem dB_message_223 : decode cB_message 223 = .ok (.iadd, 1) := by decide +kernel
theorem dB_message_224 : decode cB_message 224 = .ok (.putfield 152, 3) := by decide +kernel
theorem dB_message_227 : decode cB_message 227 = .ok (.iload 9, 2) := by decide +kernel
theorem dB_message_229 : decode cB_message 229 = .ok (.ifCond .eq 17, 3) := by decide +kernel
theorem dB_message_232 : decode cB_message 232 = .ok (.aload_n 0, 1) := by decide +kernel
theorem dB_message_233 : decode cB_message 233 = .ok (.getfield 89, 3) := by decide +kernel
theorem dB_message_236 : decode cB_message 236 = .ok (.sipush 1000, 3) := by decide +kernel
theorem dB_message_239 : decode cB_message 239 = .ok (.iload_n 2, 1) := by decide +kernel
theorem dB_message_240 : decode cB_message 240 = .ok (.imul, 1) := by decide +kernel
theorem dB_message_241 : decode cB_message 241 = .ok (.iload_n 3, 1) := by decide +kernel
theorem dB_message_242 : decode cB_message 242 = .ok (.iadd, 1) := by decide +kernel
theorem dB_message_243 : decode cB_message 243 = .ok (.iload 10, 2) := by decide +kernel
theorem dB_message_245 : decode cB_message 245 = .ok (.iastore, 1) := by decide +kernel
theorem dB_message_246 : decode cB_message 246 = .ok (.iload 10, 2) := by decide +kernel
theorem dB_message_248 : decode cB_message 248 = .ok (.iconst 1, 1) := by decide +kernel
theorem dB_message_249 : decode cB_message 249 = .ok (.if_icmp .eq 6, 3) := by decide +kernel
theorem dB_message_252 : decode cB_message 252 = .ok (.iload 10, 2) := by decide +kernel
theorem dB_message_254 : decode cB_message 254 = .ok (.ireturn, 1) := by decide +kernel
theorem dB_message_255 : decode cB_message 255 = .ok (.iload 4, 2) := by decide +kernel
theorem dB_message_257 : decode cB_message 257 = .ok (.ifCond .ne 11, 3) := by decide +kernel
theorem dB_message_260 : decode cB_message 260 = .ok (.aload_n 0, 1) := by decide +kernel
theorem dB_message_261 : decode cB_message 261 = .ok (.iload_n 1, 1) := by decide +kernel
theorem dB_message_262 : decode cB_message 262 = .ok (.invokevirtual 131, 3) := by decide +kernel
theorem dB_message_265 : decode cB_message 265 = .ok (.goto 13, 3) := by decide +kernel
theorem dB_message_268 : decode cB_message 268 = .ok (.aload_n 0, 1) := by decide +kernel
theorem dB_message_269 : decode cB_message 269 = .ok (.iload_n 1, 1) := by decide +kernel
theorem dB_message_270 : decode cB_message 270 = .ok (.iload_n 2, 1) := by decide +kernel
theorem dB_message_271 : decode cB_message 271 = .ok (.iload 4, 2) := by decide +kernel
theorem dB_message_273 : decode cB_message 273 = .ok (.iload 5, 2) := by decide +kernel
theorem dB_message_275 : decode cB_message 275 = .ok (.invokevirtual 155, 3) := by decide +kernel
theorem dB_message_278 : decode cB_message 278 = .ok (.iload 10, 2) := by decide +kernel
theorem dB_message_280 : decode cB_message 280 = .ok (.ireturn, 1) := by decide +kernel
theorem dB_seen_0 : decode cB_seen 0 = .ok (.aload_n 0, 1) := by decide +kernel
theorem dB_seen_1 : decode cB_seen 1 = .ok (.iconst 3, 1) := by decide +kernel
theorem dB_seen_2 : decode cB_seen 2 = .ok (.aload_n 0, 1) := by decide +kernel
theorem dB_seen_3 : decode cB_seen 3 = .ok (.iload_n 1, 1) := by decide +kernel
theorem dB_seen_4 : decode cB_seen 4 = .ok (.invokevirtual 110, 3) := by decide +kernel
theorem dB_seen_7 : decode cB_seen 7 = .ok (.iload_n 2, 1) := by decide +kernel
theorem dB_seen_8 : decode cB_seen 8 = .ok (.iconst 0, 1) := by decide +kernel
theorem dB_seen_9 : decode cB_seen 9 = .ok (.sipush 999, 3) := by decide +kernel
theorem dB_seen_12 : decode cB_seen 12 = .ok (.invokestatic 102, 3) := by decide +kernel
theorem dB_seen_15 : decode cB_seen 15 = .ok (.iconst 1, 1) := by decide +kernel
theorem dB_seen_16 : decode cB_seen 16 = .ok (.iconst 1, 1) := by decide +kernel
theorem dB_seen_17 : decode cB_seen 17 = .ok (.invokevirtual 106, 3) := by decide +kernel
theorem dB_seen_20 : decode cB_seen 20 = .ok (.ifCond .ne 5, 3) := by decide +kernel
theorem dB_seen_23 : decode cB_seen 23 = .ok (.iconst 0, 1) := by decide +kernel
theorem dB_seen_24 : decode cB_seen 24 = .ok (.ireturn, 1) := by decide +kernel
theorem dB_seen_25 : decode cB_seen 25 = .ok (.aload_n 0, 1) := by decide +kernel
theorem dB_seen_26 : decode cB_seen 26 = .ok (.getfield 89, 3) := by decide +kernel
theorem dB_seen_29 : decode cB_seen 29 = .ok (.sipush 1000, 3) := by decide +kernel
theorem dB_seen_32 : decode cB_seen 32 = .ok (.iload_n 1, 1) := by decide +kernel
theorem dB_seen_33 : decode cB_seen 33 = .ok (.imul, 1) := by decide +kernel
theorem dB_seen_34 : decode cB_seen 34 = .ok (.iload_n 2, 1) := by decide +kernel
theorem dB_seen_35 : decode cB_seen 35 = .ok (.iadd, 1) := by decide +kernel
theorem dB_seen_36 : decode cB_seen 36 = .ok (.iaload, 1) := by decide +kernel
theorem dB_seen_37 : decode cB_seen 37 = .ok (.ireturn, 1) := by decide +kernel
theorem dB_tick_0 : decode cB_tick 0 = .ok (.aload_n 0, 1) := by decide +kernel
theorem dB_tick_1 : decode cB_tick 1 = .ok (.iconst 2, 1) := by decide +kernel
theorem dB_tick_2 : decode cB_tick 2 = .ok (.iconst 1, 1) := by decide +kernel
theorem dB_tick_3 : decode cB_tick 3 = .ok (.iload_n 1, 1) := by decide +kernel
theorem dB_tick_4 : decode cB_tick 4 = .ok (.iconst 1, 1) := by decide +kernel
theorem dB_tick_5 : decode cB_tick 5 = .ok (.sipush 2000, 3) := by decide +kernel
theorem dB_tick_8 : decode cB_tick 8 = .ok (.invokestatic 102, 3) := by decide +kernel
theorem dB_tick_11 : decode cB_tick 11 = .ok (.ifCond .eq 18, 3) := by decide +kernel
theorem dB_tick_14 : decode cB_tick 14 = .ok (.iload_n 1, 1) := by decide +kernel
theorem dB_tick_15 : decode cB_tick 15 = .ok (.ldc 114, 2) := by decide +kernel
theorem dB_tick_17 : decode cB_tick 17 = .ok (.aload_n 0, 1) := by decide +kernel
theorem dB_tick_18 : decode cB_tick 18 = .ok (.getfield 118, 3) := by decide +kernel
theorem dB_tick_21 : decode cB_tick 21 = .ok (.isub, 1) := by decide +kernel
theorem dB_tick_22 : decode cB_tick 22 = .ok (.if_icmp .gt 7, 3) := by decide +kernel
theorem dB_tick_25 : decode cB_tick 25 = .ok (.iconst 1, 1) := by decide +kernel
theorem dB_tick_26 : decode cB_tick 26 = .ok (.goto 4, 3) := by decide +kernel
theorem dB_tick_29 : decode cB_tick 29 = .ok (.iconst 0, 1) := by decide +kernel
theorem dB_tick_30 : decode cB_tick 30 = .ok (.iconst 1, 1) := by decide +kernel
theorem dB_tick_31 : decode cB_tick 31 = .ok (.iconst 1, 1) := by decide +kernel
theorem dB_tick_32 : decode cB_tick 32 = .ok (.invokevirtual 106, 3) := by decide +kernel
theorem dB_tick_35 : decode cB_tick 35 = .ok (.ifCond .ne 5, 3) := by decide +kernel
theorem dB_tick_38 : decode cB_tick 38 = .ok (.iconst 0, 1) := by decide +kernel
theorem dB_tick_39 : decode cB_tick 39 = .ok (.ireturn, 1) := by decide +kernel
theorem dB_tick_40 : decode cB_tick 40 = .ok (.iconst 0, 1) := by decide +kernel
theorem dB_tick_41 : decode cB_tick 41 = .ok (.istore_n 2, 1) := by decide +kernel
theorem dB_tick_42 : decode cB_tick 42 = .ok (.iconst 0, 1) := by decide +kernel
theorem dB_tick_43 : decode cB_tick 43 = .ok (.istore_n 3, 1) := by decide +kernel
theorem dB_tick_44 : decode cB_tick 44 = .ok (.iload_n 3, 1) := by decide +kernel
theorem dB_tick_45 : decode cB_tick 45 = .ok (.iload_n 1, 1) := by decide +kernel
theorem dB_tick_46 : decode cB_tick 46 = .ok (.if_icmp .ge 139, 3) := by decide +kernel
theorem dB_tick_49 : decode cB_tick 49 = .ok (.aload_n 0, 1) := by decide +kernel
theorem dB_tick_50 : decode cB_tick 50 = .ok (.dup, 1) := by decide +kernel
theorem dB_tick_51 : decode cB_tick 51 = .ok (.getfield 118, 3) := by decide +kernel
theorem dB_tick_54 : decode cB_tick 54 = .ok (.iconst 1, 1) := by decide +kernel
theorem dB_tick_55 : decode cB_tick 55 = .ok (.iadd, 1) := by decide +kernel
theorem dB_tick_56 : decode cB_tick 56 = .ok (.putfield 118, 3) := by decide +kernel
theorem dB_tick_59 : decode cB_tick 59 = .ok (.iconst 0, 1) := by decide +kernel
theorem dB_tick_60 : decode cB_tick 60 = .ok (.istore 4, 2) := by decide +kernel
theorem dB_tick_62 : decode cB_tick 62 = .ok (.iload 4, 2) := by decide +kernel
theorem dB_tick_64 : decode cB_tick 64 = .ok (.aload_n 0, 1) := by decide +kernel
theorem dB_tick_65 : decode cB_tick 65 = .ok (.getfield 135, 3) := by decide +kernel
theorem dB_tick_68 : decode cB_tick 68 = .ok (.if_icmp .ge 49, 3) := by decide +kernel
theorem dB_tick_71 : decode cB_tick 71 = .ok (.aload_n 0, 1) := by decide +kernel
theorem dB_tick_72 : decode cB_tick 72 = .ok (.getfield 86, 3) := by decide +kernel
theorem dB_tick_75 : decode cB_tick 75 = .ok (.iload 4, 2) := by decide +kernel
theorem dB_tick_77 : decode cB_tick 77 = .ok (.iaload, 1) := by decide +kernel
theorem dB_tick_78 : decode cB_tick 78 = .ok (.ifCond .ge 33, 3) := by decide +kernel
theorem dB_tick_81 : decode cB_tick 81 = .ok (.aload_n 0, 1) := by decide +kernel
theorem dB_tick_82 : decode cB_tick 82 = .ok (.getfield 118, 3) := by decide +kernel
theorem dB_tick_85 : decode cB_tick 85 = .ok (.aload_n 0, 1) := by decide +kernel
theorem dB_tick_86 : decode cB_tick 86 = .ok (.getfield 29, 3) := by decide +kernel
theorem dB_tick_89 : decode cB_tick 89 = .ok (.aload_n 0, 1) := by decide +kernel
theorem dB_tick_90 : decode cB_tick 90 = .ok (.getfield 80, 3) := by decide +kernel
theorem dB_tick_93 : decode cB_tick 93 = .ok (.iload 4, 2) := by decide +kernel
theorem dB_tick_95 : decode cB_tick 95 = .ok (.iaload, 1) := by decide +kernel
theorem dB_tick_96 : decode cB_tick 96 = .ok (.iaload, 1) := by decide +kernel
theorem dB_tick_97 : decode cB_tick 97 = .ok (.if_icmp .lt 14, 3) := by decide +kernel
theorem dB_tick_100 : decode cB_tick 100 = .ok (.aload_n 0, 1) := by decide +kernel
theorem dB_tick_101 : decode cB_tick 101 = .ok (.getfield 86, 3) := by decide +kernel
theorem dB_tick_104 : decode cB_tick 104 = .ok (.iload 4, 2) := by decide +kernel
theorem dB_tick_106 : decode cB_tick 106 = .ok (.aload_n 0, 1) := by decide +kernel
theorem dB_tick_107 : decode cB_tick 107 = .ok (.getfield 118, 3) := by decide +kernel
theorem dB_tick_110 : decode cB_tick 110 = .ok (.iastore, 1) := by decide +kernel
theorem dB_tick_111 : decode cB_tick 111 = .ok (.iinc 4 1, 3) := by decide +kernel
theorem dB_tick_114 : decode cB_tick 114 = .ok (.goto (-52), 3) := by decide +kernel
theorem dB_tick_117 : decode cB_tick 117 = .ok (.iconst 0, 1) := by decide +kernel
theorem dB_tick_118 : decode cB_tick 118 = .ok (.istore 4, 2) := by decide +kernel
theorem dB_tick_120 : decode cB_tick 120 = .ok (.iload 4, 2) := by decide +kernel
theorem dB_tick_122 : decode cB_tick 122 = .ok (.aload_n 0, 1) := by decide +kernel
theorem dB_tick_123 : decode cB_tick 123 = .ok (.getfield 128, 3) := by decide +kernel
theorem dB_tick_126 : decode cB_tick 126 = .ok (.if_icmp .ge 53, 3) := by decide +kernel
theorem dB_tick_129 : decode cB_tick 129 = .ok (.aload_n 0, 1) := by decide +kernel
theorem dB_tick_130 : decode cB_tick 130 = .ok (.getfield 50, 3) := by decide +kernel
theorem dB_tick_133 : decode cB_tick 133 = .ok (.iload 4, 2) := by decide +kernel
theorem dB_tick_135 : decode cB_tick 135 = .ok (.iaload, 1) := by decide +kernel
theorem dB_tick_136 : decode cB_tick 136 = .ok (.ifCond .ne 37, 3) := by decide +kernel
theorem dB_tick_139 : decode cB_tick 139 = .ok (.aload_n 0, 1) := by decide +kernel
theorem dB_tick_140 : decode cB_tick 140 = .ok (.getfield 118, 3) := by decide +kernel
theorem dB_tick_143 : decode cB_tick 143 = .ok (.aload_n 0, 1) := by decide +kernel
theorem dB_tick_144 : decode cB_tick 144 = .ok (.getfield 56, 3) := by decide +kernel
theorem dB_tick_147 : decode cB_tick 147 = .ok (.iload 4, 2) := by decide +kernel
theorem dB_tick_149 : decode cB_tick 149 = .ok (.iaload, 1) := by decide +kernel
theorem dB_tick_150 : decode cB_tick 150 = .ok (.isub, 1) := by decide +kernel
theorem dB_tick_151 : decode cB_tick 151 = .ok (.aload_n 0, 1) := by decide +kernel
theorem dB_tick_152 : decode cB_tick 152 = .ok (.getfield 47, 3) := by decide +kernel
theorem dB_tick_155 : decode cB_tick 155 = .ok (.iload 4, 2) := by decide +kernel
theorem dB_tick_157 : decode cB_tick 157 = .ok (.iaload, 1) := by decide +kernel
theorem dB_tick_158 : decode cB_tick 158 = .ok (.if_icmp .ge 6, 3) := by decide +kernel
theorem dB_tick_161 : decode cB_tick 161 = .ok (.goto 12, 3) := by decide +kernel
theorem dB_tick_164 : decode cB_tick 164 = .ok (.aload_n 0, 1) := by decide +kernel
theorem dB_tick_165 : decode cB_tick 165 = .ok (.iload 4, 2) := by decide +kernel
theorem dB_tick_167 : decode cB_tick 167 = .ok (.invokevirtual 131, 3) := by decide +kernel
theorem dB_tick_170 : decode cB_tick 170 = .ok (.iinc 2 1, 3) := by decide +kernel
theorem dB_tick_173 : decode cB_tick 173 = .ok (.iinc 4 1, 3) := by decide +kernel
theorem dB_tick_176 : decode cB_tick 176 = .ok (.goto (-56), 3) := by decide +kernel
theorem dB_tick_179 : decode cB_tick 179 = .ok (.iinc 3 1, 3) := by decide +kernel
theorem dB_tick_182 : decode cB_tick 182 = .ok (.goto (-138), 3) := by decide +kernel
theorem dB_tick_185 : decode cB_tick 185 = .ok (.iload_n 2, 1) := by decide +kernel
theorem dB_tick_186 : decode cB_tick 186 = .ok (.ireturn, 1) := by decide +kernel
theorem dB_cut_0 : decode cB_cut 0 = .ok (.aload_n 0, 1) := by decide +kernel
theorem dB_cut_1 : decode cB_cut 1 = .ok (.iconst 5, 1) := by decide +kernel
theorem dB_cut_2 : decode cB_cut 2 = .ok (.aload_n 0, 1) := by decide +kernel
theorem dB_cut_3 : decode cB_cut 3 = .ok (.iload_n 1, 1) := by decide +kernel
theorem dB_cut_4 : decode cB_cut 4 = .ok (.invokevirtual 110, 3) := by decide +kernel
theorem dB_cut_7 : decode cB_cut 7 = .ok (.iconst 1, 1) := by decide +kernel
theorem dB_cut_8 : decode cB_cut 8 = .ok (.aload_n 0, 1) := by decide +kernel
theorem dB_cut_9 : decode cB_cut 9 = .ok (.iload_n 1, 1) := by decide +kernel
theorem dB_cut_10 : decode cB_cut 10 = .ok (.invokevirtual 110, 3) := by decide +kernel
theorem dB_cut_13 : decode cB_cut 13 = .ok (.ifCond .eq 17, 3) := by decide +kernel
theorem dB_cut_16 : decode cB_cut 16 = .ok (.aload_n 0, 1) := by decide +kernel
theorem dB_cut_17 : decode cB_cut 17 = .ok (.getfield 16, 3) := by decide +kernel
theorem dB_cut_20 : decode cB_cut 20 = .ok (.iload_n 1, 1) := by decide +kernel
theorem dB_cut_21 : decode cB_cut 21 = .ok (.baload, 1) := by decide +kernel
theorem dB_cut_22 : decode cB_cut 22 = .ok (.iload_n 2, 1) := by decide +kernel
theorem dB_cut_23 : decode cB_cut 23 = .ok (.if_icmp .eq 7, 3) := by decide +kernel
theorem dB_cut_26 : decode cB_cut 26 = .ok (.iconst 1, 1) := by decide +kernel
theorem dB_cut_27 : decode cB_cut 27 = .ok (.goto 4, 3) := by decide +kernel
theorem dB_cut_30 : decode cB_cut 30 = .ok (.iconst 0, 1) := by decide +kernel
theorem dB_cut_31 : decode cB_cut 31 = .ok (.iconst 1, 1) := by decide +kernel
theorem dB_cut_32 : decode cB_cut 32 = .ok (.invokevirtual 106, 3) := by decide +kernel
theorem dB_cut_35 : decode cB_cut 35 = .ok (.ifCond .eq 10, 3) := by decide +kernel
theorem dB_cut_38 : decode cB_cut 38 = .ok (.aload_n 0, 1) := by decide +kernel
theorem dB_cut_39 : decode cB_cut 39 = .ok (.getfield 16, 3) := by decide +kernel
theorem dB_cut_42 : decode cB_cut 42 = .ok (.iload_n 1, 1) := by decide +kernel
theorem dB_cut_43 : decode cB_cut 43 = .ok (.iload_n 2, 1) := by decide +kernel
theorem dB_cut_44 : decode cB_cut 44 = .ok (.bastore, 1) := by decide +kernel
theorem dB_cut_45 : decode cB_cut 45 = .ok (.return_, 1) := by decide +kernel
theorem dB_isLoan_0 : decode cB_isLoan 0 = .ok (.iload_n 1, 1) := by decide +kernel
theorem dB_isLoan_1 : decode cB_isLoan 1 = .ok (.iconst 0, 1) := by decide +kernel
theorem dB_isLoan_2 : decode cB_isLoan 2 = .ok (.aload_n 0, 1) := by decide +kernel
theorem dB_isLoan_3 : decode cB_isLoan 3 = .ok (.getfield 135, 3) := by decide +kernel
theorem dB_isLoan_6 : decode cB_isLoan 6 = .ok (.iconst 1, 1) := by decide +kernel
theorem dB_isLoan_7 : decode cB_isLoan 7 = .ok (.isub, 1) := by decide +kernel
theorem dB_isLoan_8 : decode cB_isLoan 8 = .ok (.invokestatic 102, 3) := by decide +kernel
theorem dB_isLoan_11 : decode cB_isLoan 11 = .ok (.ireturn, 1) := by decide +kernel
theorem dB_end_0 : decode cB_end 0 = .ok (.aload_n 0, 1) := by decide +kernel
theorem dB_end_1 : decode cB_end 1 = .ok (.iconst 5, 1) := by decide +kernel
theorem dB_end_2 : decode cB_end 2 = .ok (.aload_n 0, 1) := by decide +kernel
theorem dB_end_3 : decode cB_end 3 = .ok (.iload_n 1, 1) := by decide +kernel
theorem dB_end_4 : decode cB_end 4 = .ok (.invokevirtual 159, 3) := by decide +kernel
theorem dB_end_7 : decode cB_end 7 = .ok (.iconst 1, 1) := by decide +kernel
theorem dB_end_8 : decode cB_end 8 = .ok (.aload_n 0, 1) := by decide +kernel
theorem dB_end_9 : decode cB_end 9 = .ok (.iload_n 1, 1) := by decide +kernel
theorem dB_end_10 : decode cB_end 10 = .ok (.invokevirtual 159, 3) := by decide +kernel
theorem dB_end_13 : decode cB_end 13 = .ok (.ifCond .eq 16, 3) := by decide +kernel
theorem dB_end_16 : decode cB_end 16 = .ok (.aload_n 0, 1) := by decide +kernel
theorem dB_end_17 : decode cB_end 17 = .ok (.getfield 86, 3) := by decide +kernel
theorem dB_end_20 : decode cB_end 20 = .ok (.iload_n 1, 1) := by decide +kernel
theorem dB_end_21 : decode cB_end 21 = .ok (.iaload, 1) := by decide +kernel
theorem dB_end_22 : decode cB_end 22 = .ok (.ifCond .ge 7, 3) := by decide +kernel
theorem dB_end_25 : decode cB_end 25 = .ok (.iconst 1, 1) := by decide +kernel
theorem dB_end_26 : decode cB_end 26 = .ok (.goto 4, 3) := by decide +kernel
theorem dB_end_29 : decode cB_end 29 = .ok (.iconst 0, 1) := by decide +kernel
theorem dB_end_30 : decode cB_end 30 = .ok (.iconst 1, 1) := by decide +kernel
theorem dB_end_31 : decode cB_end 31 = .ok (.invokevirtual 106, 3) := by decide +kernel
theorem dB_end_34 : decode cB_end 34 = .ok (.ifCond .eq 13, 3) := by decide +kernel
theorem dB_end_37 : decode cB_end 37 = .ok (.aload_n 0, 1) := by decide +kernel
theorem dB_end_38 : decode cB_end 38 = .ok (.getfield 86, 3) := by decide +kernel
theorem dB_end_41 : decode cB_end 41 = .ok (.iload_n 1, 1) := by decide +kernel
theorem dB_end_42 : decode cB_end 42 = .ok (.aload_n 0, 1) := by decide +kernel
theorem dB_end_43 : decode cB_end 43 = .ok (.getfield 118, 3) := by decide +kernel
theorem dB_end_46 : decode cB_end 46 = .ok (.iastore, 1) := by decide +kernel
theorem dB_end_47 : decode cB_end 47 = .ok (.return_, 1) := by decide +kernel
theorem dB_askAt_0 : decode cB_askAt 0 = .ok (.aload_n 0, 1) := by decide +kernel
theorem dB_askAt_1 : decode cB_askAt 1 = .ok (.iconst 1, 1) := by decide +kernel
theorem dB_askAt_2 : decode cB_askAt 2 = .ok (.iload_n 1, 1) := by decide +kernel
theorem dB_askAt_3 : decode cB_askAt 3 = .ok (.iconst 0, 1) := by decide +kernel
theorem dB_askAt_4 : decode cB_askAt 4 = .ok (.aload_n 0, 1) := by decide +kernel
theorem dB_askAt_5 : decode cB_askAt 5 = .ok (.getfield 128, 3) := by decide +kernel
theorem dB_askAt_8 : decode cB_askAt 8 = .ok (.iconst 1, 1) := by decide +kernel
theorem dB_askAt_9 : decode cB_askAt 9 = .ok (.isub, 1) := by decide +kernel
theorem dB_askAt_10 : decode cB_askAt 10 = .ok (.invokestatic 102, 3) := by decide +kernel
theorem dB_askAt_13 : decode cB_askAt 13 = .ok (.ifCond .eq 16, 3) := by decide +kernel
theorem dB_askAt_16 : decode cB_askAt 16 = .ok (.iload_n 2, 1) := by decide +kernel
theorem dB_askAt_17 : decode cB_askAt 17 = .ok (.iconst 0, 1) := by decide +kernel
theorem dB_askAt_18 : decode cB_askAt 18 = .ok (.iconst 5, 1) := by decide +kernel
theorem dB_askAt_19 : decode cB_askAt 19 = .ok (.invokestatic 102, 3) := by decide +kernel
theorem dB_askAt_22 : decode cB_askAt 22 = .ok (.ifCond .eq 7, 3) := by decide +kernel
theorem dB_askAt_25 : decode cB_askAt 25 = .ok (.iconst 1, 1) := by decide +kernel
theorem dB_askAt_26 : decode cB_askAt 26 = .ok (.goto 4, 3) := by decide +kernel
theorem dB_askAt_29 : decode cB_askAt 29 = .ok (.iconst 0, 1) := by decide +kernel
theorem dB_askAt_30 : decode cB_askAt 30 = .ok (.iconst 1, 1) := by decide +kernel
theorem dB_askAt_31 : decode cB_askAt 31 = .ok (.iconst 1, 1) := by decide +kernel
theorem dB_askAt_32 : decode cB_askAt 32 = .ok (.iconst 1, 1) := by decide +kernel
theorem dB_askAt_33 : decode cB_askAt 33 = .ok (.invokevirtual 106, 3) := by decide +kernel
theorem dB_askAt_36 : decode cB_askAt 36 = .ok (.ifCond .ne 5, 3) := by decide +kernel
theorem dB_askAt_39 : decode cB_askAt 39 = .ok (.iconst 0, 1) := by decide +kernel
theorem dB_askAt_40 : decode cB_askAt 40 = .ok (.ireturn, 1) := by decide +kernel
theorem dB_askAt_41 : decode cB_askAt 41 = .ok (.iload_n 2, 1) := by decide +kernel
theorem dB_askAt_42 : decode cB_askAt 42 = .ok (.ifCond .ne 12, 3) := by decide +kernel
theorem dB_askAt_45 : decode cB_askAt 45 = .ok (.aload_n 0, 1) := by decide +kernel
theorem dB_askAt_46 : decode cB_askAt 46 = .ok (.getfield 50, 3) := by decide +kernel
theorem dB_askAt_49 : decode cB_askAt 49 = .ok (.iload_n 1, 1) := by decide +kernel
theorem dB_askAt_50 : decode cB_askAt 50 = .ok (.iaload, 1) := by decide +kernel
theorem dB_askAt_51 : decode cB_askAt 51 = .ok (.goto 73, 3) := by decide +kernel
theorem dB_askAt_54 : decode cB_askAt 54 = .ok (.iload_n 2, 1) := by decide +kernel
theorem dB_askAt_55 : decode cB_askAt 55 = .ok (.iconst 1, 1) := by decide +kernel
theorem dB_askAt_56 : decode cB_askAt 56 = .ok (.if_icmp .ne 12, 3) := by decide +kernel
theorem dB_askAt_59 : decode cB_askAt 59 = .ok (.aload_n 0, 1) := by decide +kernel
theorem dB_askAt_60 : decode cB_askAt 60 = .ok (.getfield 53, 3) := by decide +kernel
theorem dB_askAt_63 : decode cB_askAt 63 = .ok (.iload_n 1, 1) := by decide +kernel
theorem dB_askAt_64 : decode cB_askAt 64 = .ok (.iaload, 1) := by decide +kernel
theorem dB_askAt_65 : decode cB_askAt 65 = .ok (.goto 59, 3) := by decide +kernel
theorem dB_askAt_68 : decode cB_askAt 68 = .ok (.iload_n 2, 1) := by decide +kernel
theorem dB_askAt_69 : decode cB_askAt 69 = .ok (.iconst 2, 1) := by decide +kernel
theorem dB_askAt_70 : decode cB_askAt 70 = .ok (.if_icmp .ne 12, 3) := by decide +kernel
theorem dB_askAt_73 : decode cB_askAt 73 = .ok (.aload_n 0, 1) := by decide +kernel
theorem dB_askAt_74 : decode cB_askAt 74 = .ok (.getfield 56, 3) := by decide +kernel
theorem dB_askAt_77 : decode cB_askAt 77 = .ok (.iload_n 1, 1) := by decide +kernel
theorem dB_askAt_78 : decode cB_askAt 78 = .ok (.iaload, 1) := by decide +kernel
theorem dB_askAt_79 : decode cB_askAt 79 = .ok (.goto 45, 3) := by decide +kernel
theorem dB_askAt_82 : decode cB_askAt 82 = .ok (.iload_n 2, 1) := by decide +kernel
theorem dB_askAt_83 : decode cB_askAt 83 = .ok (.iconst 3, 1) := by decide +kernel
theorem dB_askAt_84 : decode cB_askAt 84 = .ok (.if_icmp .ne 12, 3) := by decide +kernel
theorem dB_askAt_87 : decode cB_askAt 87 = .ok (.aload_n 0, 1) := by decide +kernel
theorem dB_askAt_88 : decode cB_askAt 88 = .ok (.getfield 59, 3) := by decide +kernel
theorem dB_askAt_91 : decode cB_askAt 91 = .ok (.iload_n 1, 1) := by decide +kernel
theorem dB_askAt_92 : decode cB_askAt 92 = .ok (.iaload, 1) := by decide +kernel
theorem dB_askAt_93 : decode cB_askAt 93 = .ok (.goto 31, 3) := by decide +kernel
theorem dB_askAt_96 : decode cB_askAt 96 = .ok (.iload_n 2, 1) := by decide +kernel
theorem dB_askAt_97 : decode cB_askAt 97 = .ok (.iconst 4, 1) := by decide +kernel
theorem dB_askAt_98 : decode cB_askAt 98 = .ok (.if_icmp .ne 12, 3) := by decide +kernel
theorem dB_askAt_101 : decode cB_askAt 101 = .ok (.aload_n 0, 1) := by decide +kernel
theorem dB_askAt_102 : decode cB_askAt 102 = .ok (.getfield 62, 3) := by decide +kernel
theorem dB_askAt_105 : decode cB_askAt 105 = .ok (.iload_n 1, 1) := by decide +kernel
theorem dB_askAt_106 : decode cB_askAt 106 = .ok (.iaload, 1) := by decide +kernel
theorem dB_askAt_107 : decode cB_askAt 107 = .ok (.goto 17, 3) := by decide +kernel
theorem dB_askAt_110 : decode cB_askAt 110 = .ok (.aload_n 0, 1) := by decide +kernel
theorem dB_askAt_111 : decode cB_askAt 111 = .ok (.getfield 65, 3) := by decide +kernel
theorem dB_askAt_114 : decode cB_askAt 114 = .ok (.iload_n 1, 1) := by decide +kernel
theorem dB_askAt_115 : decode cB_askAt 115 = .ok (.baload, 1) := by decide +kernel
theorem dB_askAt_116 : decode cB_askAt 116 = .ok (.ifCond .eq 7, 3) := by decide +kernel
theorem dB_askAt_119 : decode cB_askAt 119 = .ok (.iconst 1, 1) := by decide +kernel
theorem dB_askAt_120 : decode cB_askAt 120 = .ok (.goto 4, 3) := by decide +kernel
theorem dB_askAt_123 : decode cB_askAt 123 = .ok (.iconst 0, 1) := by decide +kernel
theorem dB_askAt_124 : decode cB_askAt 124 = .ok (.ireturn, 1) := by decide +kernel
theorem dB_costOf_0 : decode cB_costOf 0 = .ok (.aload_n 0, 1) := by decide +kernel
theorem dB_costOf_1 : decode cB_costOf 1 = .ok (.getfield 86, 3) := by decide +kernel
theorem dB_costOf_4 : decode cB_costOf 4 = .ok (.iload_n 1, 1) := by decide +kernel
theorem dB_costOf_5 : decode cB_costOf 5 = .ok (.iaload, 1) := by decide +kernel
theorem dB_costOf_6 : decode cB_costOf 6 = .ok (.ifCond .ge 10, 3) := by decide +kernel
theorem dB_costOf_9 : decode cB_costOf 9 = .ok (.aload_n 0, 1) := by decide +kernel
theorem dB_costOf_10 : decode cB_costOf 10 = .ok (.getfield 118, 3) := by decide +kernel
theorem dB_costOf_13 : decode cB_costOf 13 = .ok (.goto 9, 3) := by decide +kernel
theorem dB_costOf_16 : decode cB_costOf 16 = .ok (.aload_n 0, 1) := by decide +kernel
theorem dB_costOf_17 : decode cB_costOf 17 = .ok (.getfield 86, 3) := by decide +kernel
theorem dB_costOf_20 : decode cB_costOf 20 = .ok (.iload_n 1, 1) := by decide +kernel
theorem dB_costOf_21 : decode cB_costOf 21 = .ok (.iaload, 1) := by decide +kernel
theorem dB_costOf_22 : decode cB_costOf 22 = .ok (.istore_n 2, 1) := by decide +kernel
theorem dB_costOf_23 : decode cB_costOf 23 = .ok (.iload_n 2, 1) := by decide +kernel
theorem dB_costOf_24 : decode cB_costOf 24 = .ok (.aload_n 0, 1) := by decide +kernel
theorem dB_costOf_25 : decode cB_costOf 25 = .ok (.getfield 83, 3) := by decide +kernel
theorem dB_costOf_28 : decode cB_costOf 28 = .ok (.iload_n 1, 1) := by decide +kernel
theorem dB_costOf_29 : decode cB_costOf 29 = .ok (.iaload, 1) := by decide +kernel
theorem dB_costOf_30 : decode cB_costOf 30 = .ok (.isub, 1) := by decide +kernel
theorem dB_costOf_31 : decode cB_costOf 31 = .ok (.istore_n 3, 1) := by decide +kernel
theorem dB_costOf_32 : decode cB_costOf 32 = .ok (.iload_n 3, 1) := by decide +kernel
theorem dB_costOf_33 : decode cB_costOf 33 = .ok (.ifCond .gt 7, 3) := by decide +kernel
theorem dB_costOf_36 : decode cB_costOf 36 = .ok (.iconst 0, 1) := by decide +kernel
theorem dB_costOf_37 : decode cB_costOf 37 = .ok (.goto 22, 3) := by decide +kernel
theorem dB_costOf_40 : decode cB_costOf 40 = .ok (.aload_n 0, 1) := by decide +kernel
theorem dB_costOf_41 : decode cB_costOf 41 = .ok (.getfield 13, 3) := by decide +kernel
theorem dB_costOf_44 : decode cB_costOf 44 = .ok (.aload_n 0, 1) := by decide +kernel
theorem dB_costOf_45 : decode cB_costOf 45 = .ok (.getfield 71, 3) := by decide +kernel
theorem dB_costOf_48 : decode cB_costOf 48 = .ok (.iload_n 1, 1) := by decide +kernel
theorem dB_costOf_49 : decode cB_costOf 49 = .ok (.iaload, 1) := by decide +kernel
theorem dB_costOf_50 : decode cB_costOf 50 = .ok (.iaload, 1) := by decide +kernel
theorem dB_costOf_51 : decode cB_costOf 51 = .ok (.iload_n 3, 1) := by decide +kernel
theorem dB_costOf_52 : decode cB_costOf 52 = .ok (.bipush 59, 2) := by decide +kernel
theorem dB_costOf_54 : decode cB_costOf 54 = .ok (.iadd, 1) := by decide +kernel
theorem dB_costOf_55 : decode cB_costOf 55 = .ok (.bipush 60, 2) := by decide +kernel
theorem dB_costOf_57 : decode cB_costOf 57 = .ok (.idiv, 1) := by decide +kernel
theorem dB_costOf_58 : decode cB_costOf 58 = .ok (.imul, 1) := by decide +kernel
theorem dB_costOf_59 : decode cB_costOf 59 = .ok (.ireturn, 1) := by decide +kernel
theorem dB_loanAt_0 : decode cB_loanAt 0 = .ok (.aload_n 0, 1) := by decide +kernel
theorem dB_loanAt_1 : decode cB_loanAt 1 = .ok (.iconst 1, 1) := by decide +kernel
theorem dB_loanAt_2 : decode cB_loanAt 2 = .ok (.aload_n 0, 1) := by decide +kernel
theorem dB_loanAt_3 : decode cB_loanAt 3 = .ok (.iload_n 1, 1) := by decide +kernel
theorem dB_loanAt_4 : decode cB_loanAt 4 = .ok (.invokevirtual 159, 3) := by decide +kernel
theorem dB_loanAt_7 : decode cB_loanAt 7 = .ok (.ifCond .eq 17, 3) := by decide +kernel
theorem dB_loanAt_10 : decode cB_loanAt 10 = .ok (.iload_n 2, 1) := by decide +kernel
theorem dB_loanAt_11 : decode cB_loanAt 11 = .ok (.iconst 0, 1) := by decide +kernel
theorem dB_loanAt_12 : decode cB_loanAt 12 = .ok (.bipush 6, 2) := by decide +kernel
theorem dB_loanAt_14 : decode cB_loanAt 14 = .ok (.invokestatic 102, 3) := by decide +kernel
theorem dB_loanAt_17 : decode cB_loanAt 17 = .ok (.ifCond .eq 7, 3) := by decide +kernel
theorem dB_loanAt_20 : decode cB_loanAt 20 = .ok (.iconst 1, 1) := by decide +kernel
theorem dB_loanAt_21 : decode cB_loanAt 21 = .ok (.goto 4, 3) := by decide +kernel
theorem dB_loanAt_24 : decode cB_loanAt 24 = .ok (.iconst 0, 1) := by decide +kernel
theorem dB_loanAt_25 : decode cB_loanAt 25 = .ok (.iconst 1, 1) := by decide +kernel
theorem dB_loanAt_26 : decode cB_loanAt 26 = .ok (.iconst 1, 1) := by decide +kernel
theorem dB_loanAt_27 : decode cB_loanAt 27 = .ok (.iconst 1, 1) := by decide +kernel
theorem dB_loanAt_28 : decode cB_loanAt 28 = .ok (.invokevirtual 106, 3) := by decide +kernel
theorem dB_loanAt_31 : decode cB_loanAt 31 = .ok (.ifCond .ne 5, 3) := by decide +kernel
theorem dB_loanAt_34 : decode cB_loanAt 34 = .ok (.iconst 0, 1) := by decide +kernel
theorem dB_loanAt_35 : decode cB_loanAt 35 = .ok (.ireturn, 1) := by decide +kernel
theorem dB_loanAt_36 : decode cB_loanAt 36 = .ok (.iload_n 2, 1) := by decide +kernel
theorem dB_loanAt_37 : decode cB_loanAt 37 = .ok (.ifCond .ne 12, 3) := by decide +kernel
theorem dB_loanAt_40 : decode cB_loanAt 40 = .ok (.aload_n 0, 1) := by decide +kernel
theorem dB_loanAt_41 : decode cB_loanAt 41 = .ok (.getfield 71, 3) := by decide +kernel
theorem dB_loanAt_44 : decode cB_loanAt 44 = .ok (.iload_n 1, 1) := by decide +kernel
theorem dB_loanAt_45 : decode cB_loanAt 45 = .ok (.iaload, 1) := by decide +kernel
theorem dB_loanAt_46 : decode cB_loanAt 46 = .ok (.goto 78, 3) := by decide +kernel
theorem dB_loanAt_49 : decode cB_loanAt 49 = .ok (.iload_n 2, 1) := by decide +kernel
theorem dB_loanAt_50 : decode cB_loanAt 50 = .ok (.iconst 1, 1) := by decide +kernel
theorem dB_loanAt_51 : decode cB_loanAt 51 = .ok (.if_icmp .ne 12, 3) := by decide +kernel
theorem dB_loanAt_54 : decode cB_loanAt 54 = .ok (.aload_n 0, 1) := by decide +kernel
theorem dB_loanAt_55 : decode cB_loanAt 55 = .ok (.getfield 74, 3) := by decide +kernel
theorem dB_loanAt_58 : decode cB_loanAt 58 = .ok (.iload_n 1, 1) := by decide +kernel
theorem dB_loanAt_59 : decode cB_loanAt 59 = .ok (.iaload, 1) := by decide +kernel
theorem dB_loanAt_60 : decode cB_loanAt 60 = .ok (.goto 64, 3) := by decide +kernel
theorem dB_loanAt_63 : decode cB_loanAt 63 = .ok (.iload_n 2, 1) := by decide +kernel
theorem dB_loanAt_64 : decode cB_loanAt 64 = .ok (.iconst 2, 1) := by decide +kernel
theorem dB_loanAt_65 : decode cB_loanAt 65 = .ok (.if_icmp .ne 12, 3) := by decide +kernel
theorem dB_loanAt_68 : decode cB_loanAt 68 = .ok (.aload_n 0, 1) := by decide +kernel
theorem dB_loanAt_69 : decode cB_loanAt 69 = .ok (.getfield 77, 3) := by decide +kernel
theorem dB_loanAt_72 : decode cB_loanAt 72 = .ok (.iload_n 1, 1) := by decide +kernel
theorem dB_loanAt_73 : decode cB_loanAt 73 = .ok (.iaload, 1) := by decide +kernel
theorem dB_loanAt_74 : decode cB_loanAt 74 = .ok (.goto 50, 3) := by decide +kernel
theorem dB_loanAt_77 : decode cB_loanAt 77 = .ok (.iload_n 2, 1) := by decide +kernel
theorem dB_loanAt_78 : decode cB_loanAt 78 = .ok (.iconst 3, 1) := by decide +kernel
theorem dB_loanAt_79 : decode cB_loanAt 79 = .ok (.if_icmp .ne 12, 3) := by decide +kernel
theorem dB_loanAt_82 : decode cB_loanAt 82 = .ok (.aload_n 0, 1) := by decide +kernel
theorem dB_loanAt_83 : decode cB_loanAt 83 = .ok (.getfield 80, 3) := by decide +kernel
theorem dB_loanAt_86 : decode cB_loanAt 86 = .ok (.iload_n 1, 1) := by decide +kernel
theorem dB_loanAt_87 : decode cB_loanAt 87 = .ok (.iaload, 1) := by decide +kernel
theorem dB_loanAt_88 : decode cB_loanAt 88 = .ok (.goto 36, 3) := by decide +kernel
theorem dB_loanAt_91 : decode cB_loanAt 91 = .ok (.iload_n 2, 1) := by decide +kernel
theorem dB_loanAt_92 : decode cB_loanAt 92 = .ok (.iconst 4, 1) := by decide +kernel
theorem dB_loanAt_93 : decode cB_loanAt 93 = .ok (.if_icmp .ne 12, 3) := by decide +kernel
theorem dB_loanAt_96 : decode cB_loanAt 96 = .ok (.aload_n 0, 1) := by decide +kernel
theorem dB_loanAt_97 : decode cB_loanAt 97 = .ok (.getfield 83, 3) := by decide +kernel
theorem dB_loanAt_100 : decode cB_loanAt 100 = .ok (.iload_n 1, 1) := by decide +kernel
theorem dB_loanAt_101 : decode cB_loanAt 101 = .ok (.iaload, 1) := by decide +kernel
theorem dB_loanAt_102 : decode cB_loanAt 102 = .ok (.goto 22, 3) := by decide +kernel
theorem dB_loanAt_105 : decode cB_loanAt 105 = .ok (.iload_n 2, 1) := by decide +kernel
theorem dB_loanAt_106 : decode cB_loanAt 106 = .ok (.iconst 5, 1) := by decide +kernel
theorem dB_loanAt_107 : decode cB_loanAt 107 = .ok (.if_icmp .ne 12, 3) := by decide +kernel
theorem dB_loanAt_110 : decode cB_loanAt 110 = .ok (.aload_n 0, 1) := by decide +kernel
theorem dB_loanAt_111 : decode cB_loanAt 111 = .ok (.getfield 86, 3) := by decide +kernel
theorem dB_loanAt_114 : decode cB_loanAt 114 = .ok (.iload_n 1, 1) := by decide +kernel
theorem dB_loanAt_115 : decode cB_loanAt 115 = .ok (.iaload, 1) := by decide +kernel
theorem dB_loanAt_116 : decode cB_loanAt 116 = .ok (.goto 8, 3) := by decide +kernel
theorem dB_loanAt_119 : decode cB_loanAt 119 = .ok (.aload_n 0, 1) := by decide +kernel
theorem dB_loanAt_120 : decode cB_loanAt 120 = .ok (.iload_n 1, 1) := by decide +kernel
theorem dB_loanAt_121 : decode cB_loanAt 121 = .ok (.invokevirtual 162, 3) := by decide +kernel
theorem dB_loanAt_124 : decode cB_loanAt 124 = .ok (.ireturn, 1) := by decide +kernel
theorem dB_cost_0 : decode cB_cost 0 = .ok (.aload_n 0, 1) := by decide +kernel
theorem dB_cost_1 : decode cB_cost 1 = .ok (.iconst 1, 1) := by decide +kernel
theorem dB_cost_2 : decode cB_cost 2 = .ok (.aload_n 0, 1) := by decide +kernel
theorem dB_cost_3 : decode cB_cost 3 = .ok (.iload_n 1, 1) := by decide +kernel
theorem dB_cost_4 : decode cB_cost 4 = .ok (.invokevirtual 110, 3) := by decide +kernel
theorem dB_cost_7 : decode cB_cost 7 = .ok (.iconst 1, 1) := by decide +kernel
theorem dB_cost_8 : decode cB_cost 8 = .ok (.iconst 1, 1) := by decide +kernel
theorem dB_cost_9 : decode cB_cost 9 = .ok (.iconst 1, 1) := by decide +kernel
theorem dB_cost_10 : decode cB_cost 10 = .ok (.invokevirtual 106, 3) := by decide +kernel
theorem dB_cost_13 : decode cB_cost 13 = .ok (.ifCond .ne 5, 3) := by decide +kernel
theorem dB_cost_16 : decode cB_cost 16 = .ok (.iconst 0, 1) := by decide +kernel
theorem dB_cost_17 : decode cB_cost 17 = .ok (.ireturn, 1) := by decide +kernel
theorem dB_cost_18 : decode cB_cost 18 = .ok (.iconst 0, 1) := by decide +kernel
theorem dB_cost_19 : decode cB_cost 19 = .ok (.istore_n 2, 1) := by decide +kernel
theorem dB_cost_20 : decode cB_cost 20 = .ok (.iconst 0, 1) := by decide +kernel
theorem dB_cost_21 : decode cB_cost 21 = .ok (.istore_n 3, 1) := by decide +kernel
theorem dB_cost_22 : decode cB_cost 22 = .ok (.iload_n 3, 1) := by decide +kernel
theorem dB_cost_23 : decode cB_cost 23 = .ok (.aload_n 0, 1) := by decide +kernel
theorem dB_cost_24 : decode cB_cost 24 = .ok (.getfield 135, 3) := by decide +kernel
theorem dB_cost_27 : decode cB_cost 27 = .ok (.if_icmp .ge 27, 3) := by decide +kernel
theorem dB_cost_30 : decode cB_cost 30 = .ok (.aload_n 0, 1) := by decide +kernel
theorem dB_cost_31 : decode cB_cost 31 = .ok (.getfield 71, 3) := by decide +kernel
theorem dB_cost_34 : decode cB_cost 34 = .ok (.iload_n 3, 1) := by decide +kernel
theorem dB_cost_35 : decode cB_cost 35 = .ok (.iaload, 1) := by decide +kernel
theorem dB_cost_36 : decode cB_cost 36 = .ok (.iload_n 1, 1) := by decide +kernel
theorem dB_cost_37 : decode cB_cost 37 = .ok (.if_icmp .ne 11, 3) := by decide +kernel
theorem dB_cost_40 : decode cB_cost 40 = .ok (.iload_n 2, 1) := by decide +kernel
theorem dB_cost_41 : decode cB_cost 41 = .ok (.aload_n 0, 1) := by decide +kernel
theorem dB_cost_42 : decode cB_cost 42 = .ok (.iload_n 3, 1) := by decide +kernel
theorem dB_cost_43 : decode cB_cost 43 = .ok (.invokevirtual 162, 3) := by decide +kernel
theorem dB_cost_46 : decode cB_cost 46 = .ok (.iadd, 1) := by decide +kernel
