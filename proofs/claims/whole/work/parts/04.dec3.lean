theorem dHo_has_13 : decode cHo_has 13 = .ok (.goto 4, 3) := by decide +kernel
theorem dHo_has_16 : decode cHo_has 16 = .ok (.iconst 0, 1) := by decide +kernel
theorem dHo_has_17 : decode cHo_has 17 = .ok (.ireturn, 1) := by decide +kernel
theorem dHo_isFull_0 : decode cHo_isFull 0 = .ok (.aload_n 0, 1) := by decide +kernel
theorem dHo_isFull_1 : decode cHo_isFull 1 = .ok (.getfield 22, 3) := by decide +kernel
theorem dHo_isFull_4 : decode cHo_isFull 4 = .ok (.bipush 8, 2) := by decide +kernel
theorem dHo_isFull_6 : decode cHo_isFull 6 = .ok (.if_icmp .lt 7, 3) := by decide +kernel
theorem dHo_isFull_9 : decode cHo_isFull 9 = .ok (.iconst 1, 1) := by decide +kernel
theorem dHo_isFull_10 : decode cHo_isFull 10 = .ok (.goto 4, 3) := by decide +kernel
theorem dHo_isFull_13 : decode cHo_isFull 13 = .ok (.iconst 0, 1) := by decide +kernel
theorem dHo_isFull_14 : decode cHo_isFull 14 = .ok (.ireturn, 1) := by decide +kernel
theorem dHo_add_0 : decode cHo_add 0 = .ok (.aload_n 0, 1) := by decide +kernel
theorem dHo_add_1 : decode cHo_add 1 = .ok (.getfield 9, 3) := by decide +kernel
theorem dHo_add_4 : decode cHo_add 4 = .ok (.aload_n 0, 1) := by decide +kernel
theorem dHo_add_5 : decode cHo_add 5 = .ok (.getfield 22, 3) := by decide +kernel
theorem dHo_add_8 : decode cHo_add 8 = .ok (.iload_n 1, 1) := by decide +kernel
theorem dHo_add_9 : decode cHo_add 9 = .ok (.iastore, 1) := by decide +kernel
theorem dHo_add_10 : decode cHo_add 10 = .ok (.aload_n 0, 1) := by decide +kernel
theorem dHo_add_11 : decode cHo_add 11 = .ok (.getfield 15, 3) := by decide +kernel
theorem dHo_add_14 : decode cHo_add 14 = .ok (.aload_n 0, 1) := by decide +kernel
theorem dHo_add_15 : decode cHo_add 15 = .ok (.getfield 22, 3) := by decide +kernel
theorem dHo_add_18 : decode cHo_add 18 = .ok (.iload_n 2, 1) := by decide +kernel
theorem dHo_add_19 : decode cHo_add 19 = .ok (.iastore, 1) := by decide +kernel
theorem dHo_add_20 : decode cHo_add 20 = .ok (.aload_n 0, 1) := by decide +kernel
theorem dHo_add_21 : decode cHo_add 21 = .ok (.dup, 1) := by decide +kernel
theorem dHo_add_22 : decode cHo_add 22 = .ok (.getfield 22, 3) := by decide +kernel
theorem dHo_add_25 : decode cHo_add 25 = .ok (.dup_x1, 1) := by decide +kernel
theorem dHo_add_26 : decode cHo_add 26 = .ok (.iconst 1, 1) := by decide +kernel
theorem dHo_add_27 : decode cHo_add 27 = .ok (.iadd, 1) := by decide +kernel
theorem dHo_add_28 : decode cHo_add 28 = .ok (.putfield 22, 3) := by decide +kernel
theorem dHo_add_31 : decode cHo_add 31 = .ok (.ireturn, 1) := by decide +kernel
theorem dAg_init_0 : decode cAg_init 0 = .ok (.aload_n 0, 1) := by decide +kernel
theorem dAg_init_1 : decode cAg_init 1 = .ok (.invokespecial 3, 3) := by decide +kernel
theorem dAg_init_4 : decode cAg_init 4 = .ok (.aload_n 0, 1) := by decide +kernel
theorem dAg_init_5 : decode cAg_init 5 = .ok (.bipush 30, 2) := by decide +kernel
theorem dAg_init_7 : decode cAg_init 7 = .ok (.newarray .int, 2) := by decide +kernel
theorem dAg_init_9 : decode cAg_init 9 = .ok (.putfield 9, 3) := by decide +kernel
theorem dAg_init_12 : decode cAg_init 12 = .ok (.aload_n 0, 1) := by decide +kernel
theorem dAg_init_13 : decode cAg_init 13 = .ok (.bipush 30, 2) := by decide +kernel
theorem dAg_init_15 : decode cAg_init 15 = .ok (.newarray .int, 2) := by decide +kernel
theorem dAg_init_17 : decode cAg_init 17 = .ok (.putfield 15, 3) := by decide +kernel
theorem dAg_init_20 : decode cAg_init 20 = .ok (.aload_n 0, 1) := by decide +kernel
theorem dAg_init_21 : decode cAg_init 21 = .ok (.bipush 30, 2) := by decide +kernel
theorem dAg_init_23 : decode cAg_init 23 = .ok (.newarray .int, 2) := by decide +kernel
theorem dAg_init_25 : decode cAg_init 25 = .ok (.putfield 18, 3) := by decide +kernel
theorem dAg_init_28 : decode cAg_init 28 = .ok (.aload_n 0, 1) := by decide +kernel
theorem dAg_init_29 : decode cAg_init 29 = .ok (.bipush 30, 2) := by decide +kernel
theorem dAg_init_31 : decode cAg_init 31 = .ok (.newarray .int, 2) := by decide +kernel
theorem dAg_init_33 : decode cAg_init 33 = .ok (.putfield 21, 3) := by decide +kernel
theorem dAg_init_36 : decode cAg_init 36 = .ok (.aload_n 0, 1) := by decide +kernel
theorem dAg_init_37 : decode cAg_init 37 = .ok (.bipush 30, 2) := by decide +kernel
theorem dAg_init_39 : decode cAg_init 39 = .ok (.newarray .int, 2) := by decide +kernel
theorem dAg_init_41 : decode cAg_init 41 = .ok (.putfield 24, 3) := by decide +kernel
theorem dAg_init_44 : decode cAg_init 44 = .ok (.aload_n 0, 1) := by decide +kernel
theorem dAg_init_45 : decode cAg_init 45 = .ok (.bipush 30, 2) := by decide +kernel
theorem dAg_init_47 : decode cAg_init 47 = .ok (.newarray .int, 2) := by decide +kernel
theorem dAg_init_49 : decode cAg_init 49 = .ok (.putfield 27, 3) := by decide +kernel
theorem dAg_init_52 : decode cAg_init 52 = .ok (.return_, 1) := by decide +kernel
theorem dAg_isFull_0 : decode cAg_isFull 0 = .ok (.aload_n 0, 1) := by decide +kernel
theorem dAg_isFull_1 : decode cAg_isFull 1 = .ok (.getfield 30, 3) := by decide +kernel
theorem dAg_isFull_4 : decode cAg_isFull 4 = .ok (.bipush 30, 2) := by decide +kernel
theorem dAg_isFull_6 : decode cAg_isFull 6 = .ok (.if_icmp .lt 7, 3) := by decide +kernel
theorem dAg_isFull_9 : decode cAg_isFull 9 = .ok (.iconst 1, 1) := by decide +kernel
theorem dAg_isFull_10 : decode cAg_isFull 10 = .ok (.goto 4, 3) := by decide +kernel
theorem dAg_isFull_13 : decode cAg_isFull 13 = .ok (.iconst 0, 1) := by decide +kernel
theorem dAg_isFull_14 : decode cAg_isFull 14 = .ok (.ireturn, 1) := by decide +kernel
theorem dAg_add_0 : decode cAg_add 0 = .ok (.aload_n 0, 1) := by decide +kernel
theorem dAg_add_1 : decode cAg_add 1 = .ok (.getfield 9, 3) := by decide +kernel
theorem dAg_add_4 : decode cAg_add 4 = .ok (.aload_n 0, 1) := by decide +kernel
theorem dAg_add_5 : decode cAg_add 5 = .ok (.getfield 30, 3) := by decide +kernel
theorem dAg_add_8 : decode cAg_add 8 = .ok (.iload_n 1, 1) := by decide +kernel
theorem dAg_add_9 : decode cAg_add 9 = .ok (.iastore, 1) := by decide +kernel
theorem dAg_add_10 : decode cAg_add 10 = .ok (.aload_n 0, 1) := by decide +kernel
theorem dAg_add_11 : decode cAg_add 11 = .ok (.getfield 15, 3) := by decide +kernel
theorem dAg_add_14 : decode cAg_add 14 = .ok (.aload_n 0, 1) := by decide +kernel
theorem dAg_add_15 : decode cAg_add 15 = .ok (.getfield 30, 3) := by decide +kernel
theorem dAg_add_18 : decode cAg_add 18 = .ok (.iload_n 2, 1) := by decide +kernel
theorem dAg_add_19 : decode cAg_add 19 = .ok (.iastore, 1) := by decide +kernel
theorem dAg_add_20 : decode cAg_add 20 = .ok (.aload_n 0, 1) := by decide +kernel
theorem dAg_add_21 : decode cAg_add 21 = .ok (.getfield 18, 3) := by decide +kernel
theorem dAg_add_24 : decode cAg_add 24 = .ok (.aload_n 0, 1) := by decide +kernel
theorem dAg_add_25 : decode cAg_add 25 = .ok (.getfield 30, 3) := by decide +kernel
theorem dAg_add_28 : decode cAg_add 28 = .ok (.iload_n 3, 1) := by decide +kernel
theorem dAg_add_29 : decode cAg_add 29 = .ok (.iastore, 1) := by decide +kernel
theorem dAg_add_30 : decode cAg_add 30 = .ok (.aload_n 0, 1) := by decide +kernel
theorem dAg_add_31 : decode cAg_add 31 = .ok (.getfield 21, 3) := by decide +kernel
theorem dAg_add_34 : decode cAg_add 34 = .ok (.aload_n 0, 1) := by decide +kernel
theorem dAg_add_35 : decode cAg_add 35 = .ok (.getfield 30, 3) := by decide +kernel
theorem dAg_add_38 : decode cAg_add 38 = .ok (.iload 4, 2) := by decide +kernel
theorem dAg_add_40 : decode cAg_add 40 = .ok (.iastore, 1) := by decide +kernel
theorem dAg_add_41 : decode cAg_add 41 = .ok (.aload_n 0, 1) := by decide +kernel
theorem dAg_add_42 : decode cAg_add 42 = .ok (.getfield 24, 3) := by decide +kernel
theorem dAg_add_45 : decode cAg_add 45 = .ok (.aload_n 0, 1) := by decide +kernel
theorem dAg_add_46 : decode cAg_add 46 = .ok (.getfield 30, 3) := by decide +kernel
theorem dAg_add_49 : decode cAg_add 49 = .ok (.iload 5, 2) := by decide +kernel
theorem dAg_add_51 : decode cAg_add 51 = .ok (.iastore, 1) := by decide +kernel
theorem dAg_add_52 : decode cAg_add 52 = .ok (.aload_n 0, 1) := by decide +kernel
theorem dAg_add_53 : decode cAg_add 53 = .ok (.getfield 27, 3) := by decide +kernel
theorem dAg_add_56 : decode cAg_add 56 = .ok (.aload_n 0, 1) := by decide +kernel
theorem dAg_add_57 : decode cAg_add 57 = .ok (.getfield 30, 3) := by decide +kernel
theorem dAg_add_60 : decode cAg_add 60 = .ok (.iload 6, 2) := by decide +kernel
theorem dAg_add_62 : decode cAg_add 62 = .ok (.iastore, 1) := by decide +kernel
theorem dAg_add_63 : decode cAg_add 63 = .ok (.aload_n 0, 1) := by decide +kernel
theorem dAg_add_64 : decode cAg_add 64 = .ok (.dup, 1) := by decide +kernel
theorem dAg_add_65 : decode cAg_add 65 = .ok (.getfield 30, 3) := by decide +kernel
theorem dAg_add_68 : decode cAg_add 68 = .ok (.dup_x1, 1) := by decide +kernel
theorem dAg_add_69 : decode cAg_add 69 = .ok (.iconst 1, 1) := by decide +kernel
theorem dAg_add_70 : decode cAg_add 70 = .ok (.iadd, 1) := by decide +kernel
theorem dAg_add_71 : decode cAg_add 71 = .ok (.putfield 30, 3) := by decide +kernel
theorem dAg_add_74 : decode cAg_add 74 = .ok (.ireturn, 1) := by decide +kernel
theorem dAg_meetAny_0 : decode cAg_meetAny 0 = .ok (.iconst 0, 1) := by decide +kernel
theorem dAg_meetAny_1 : decode cAg_meetAny 1 = .ok (.istore 5, 2) := by decide +kernel
theorem dAg_meetAny_3 : decode cAg_meetAny 3 = .ok (.iload 5, 2) := by decide +kernel
theorem dAg_meetAny_5 : decode cAg_meetAny 5 = .ok (.aload_n 0, 1) := by decide +kernel
theorem dAg_meetAny_6 : decode cAg_meetAny 6 = .ok (.getfield 30, 3) := by decide +kernel
theorem dAg_meetAny_9 : decode cAg_meetAny 9 = .ok (.if_icmp .ge 56, 3) := by decide +kernel
theorem dAg_meetAny_12 : decode cAg_meetAny 12 = .ok (.aload_n 0, 1) := by decide +kernel
theorem dAg_meetAny_13 : decode cAg_meetAny 13 = .ok (.getfield 9, 3) := by decide +kernel
theorem dAg_meetAny_16 : decode cAg_meetAny 16 = .ok (.iload 5, 2) := by decide +kernel
theorem dAg_meetAny_18 : decode cAg_meetAny 18 = .ok (.iaload, 1) := by decide +kernel
theorem dAg_meetAny_19 : decode cAg_meetAny 19 = .ok (.iload_n 1, 1) := by decide +kernel
theorem dAg_meetAny_20 : decode cAg_meetAny 20 = .ok (.if_icmp .ne 39, 3) := by decide +kernel
theorem dAg_meetAny_23 : decode cAg_meetAny 23 = .ok (.aload_n 0, 1) := by decide +kernel
theorem dAg_meetAny_24 : decode cAg_meetAny 24 = .ok (.getfield 15, 3) := by decide +kernel
theorem dAg_meetAny_27 : decode cAg_meetAny 27 = .ok (.iload 5, 2) := by decide +kernel
theorem dAg_meetAny_29 : decode cAg_meetAny 29 = .ok (.iaload, 1) := by decide +kernel
theorem dAg_meetAny_30 : decode cAg_meetAny 30 = .ok (.iload_n 2, 1) := by decide +kernel
theorem dAg_meetAny_31 : decode cAg_meetAny 31 = .ok (.if_icmp .ne 28, 3) := by decide +kernel
theorem dAg_meetAny_34 : decode cAg_meetAny 34 = .ok (.aload_n 0, 1) := by decide +kernel
theorem dAg_meetAny_35 : decode cAg_meetAny 35 = .ok (.getfield 18, 3) := by decide +kernel
theorem dAg_meetAny_38 : decode cAg_meetAny 38 = .ok (.iload 5, 2) := by decide +kernel
theorem dAg_meetAny_40 : decode cAg_meetAny 40 = .ok (.iaload, 1) := by decide +kernel
theorem dAg_meetAny_41 : decode cAg_meetAny 41 = .ok (.iload 4, 2) := by decide +kernel
theorem dAg_meetAny_43 : decode cAg_meetAny 43 = .ok (.if_icmp .ge 16, 3) := by decide +kernel
theorem dAg_meetAny_46 : decode cAg_meetAny 46 = .ok (.iload_n 3, 1) := by decide +kernel
theorem dAg_meetAny_47 : decode cAg_meetAny 47 = .ok (.aload_n 0, 1) := by decide +kernel
theorem dAg_meetAny_48 : decode cAg_meetAny 48 = .ok (.getfield 21, 3) := by decide +kernel
theorem dAg_meetAny_51 : decode cAg_meetAny 51 = .ok (.iload 5, 2) := by decide +kernel
theorem dAg_meetAny_53 : decode cAg_meetAny 53 = .ok (.iaload, 1) := by decide +kernel
theorem dAg_meetAny_54 : decode cAg_meetAny 54 = .ok (.if_icmp .ge 5, 3) := by decide +kernel
theorem dAg_meetAny_57 : decode cAg_meetAny 57 = .ok (.iconst 1, 1) := by decide +kernel
theorem dAg_meetAny_58 : decode cAg_meetAny 58 = .ok (.ireturn, 1) := by decide +kernel
theorem dAg_meetAny_59 : decode cAg_meetAny 59 = .ok (.iinc 5 1, 3) := by decide +kernel
theorem dAg_meetAny_62 : decode cAg_meetAny 62 = .ok (.goto (-59), 3) := by decide +kernel
theorem dAg_meetAny_65 : decode cAg_meetAny 65 = .ok (.iconst 0, 1) := by decide +kernel
theorem dAg_meetAny_66 : decode cAg_meetAny 66 = .ok (.ireturn, 1) := by decide +kernel
theorem dAg_holding_0 : decode cAg_holding 0 = .ok (.iconst 0, 1) := by decide +kernel
theorem dAg_holding_1 : decode cAg_holding 1 = .ok (.istore 4, 2) := by decide +kernel
theorem dAg_holding_3 : decode cAg_holding 3 = .ok (.iload 4, 2) := by decide +kernel
theorem dAg_holding_5 : decode cAg_holding 5 = .ok (.aload_n 0, 1) := by decide +kernel
theorem dAg_holding_6 : decode cAg_holding 6 = .ok (.getfield 30, 3) := by decide +kernel
theorem dAg_holding_9 : decode cAg_holding 9 = .ok (.if_icmp .ge 44, 3) := by decide +kernel
theorem dAg_holding_12 : decode cAg_holding 12 = .ok (.aload_n 0, 1) := by decide +kernel
theorem dAg_holding_13 : decode cAg_holding 13 = .ok (.getfield 9, 3) := by decide +kernel
theorem dAg_holding_16 : decode cAg_holding 16 = .ok (.iload 4, 2) := by decide +kernel
theorem dAg_holding_18 : decode cAg_holding 18 = .ok (.iaload, 1) := by decide +kernel
theorem dAg_holding_19 : decode cAg_holding 19 = .ok (.iload_n 1, 1) := by decide +kernel
theorem dAg_holding_20 : decode cAg_holding 20 = .ok (.if_icmp .ne 27, 3) := by decide +kernel
theorem dAg_holding_23 : decode cAg_holding 23 = .ok (.aload_n 0, 1) := by decide +kernel
theorem dAg_holding_24 : decode cAg_holding 24 = .ok (.getfield 15, 3) := by decide +kernel
theorem dAg_holding_27 : decode cAg_holding 27 = .ok (.iload 4, 2) := by decide +kernel
theorem dAg_holding_29 : decode cAg_holding 29 = .ok (.iaload, 1) := by decide +kernel
theorem dAg_holding_30 : decode cAg_holding 30 = .ok (.iload_n 2, 1) := by decide +kernel
theorem dAg_holding_31 : decode cAg_holding 31 = .ok (.if_icmp .ne 16, 3) := by decide +kernel
theorem dAg_holding_34 : decode cAg_holding 34 = .ok (.aload_n 0, 1) := by decide +kernel
theorem dAg_holding_35 : decode cAg_holding 35 = .ok (.iload 4, 2) := by decide +kernel
theorem dAg_holding_37 : decode cAg_holding 37 = .ok (.iload_n 3, 1) := by decide +kernel
theorem dAg_holding_38 : decode cAg_holding 38 = .ok (.invokevirtual 34, 3) := by decide +kernel
theorem dAg_holding_41 : decode cAg_holding 41 = .ok (.ifCond .eq 6, 3) := by decide +kernel
theorem dAg_holding_44 : decode cAg_holding 44 = .ok (.iload 4, 2) := by decide +kernel
theorem dAg_holding_46 : decode cAg_holding 46 = .ok (.ireturn, 1) := by decide +kernel
theorem dAg_holding_47 : decode cAg_holding 47 = .ok (.iinc 4 1, 3) := by decide +kernel
theorem dAg_holding_50 : decode cAg_holding 50 = .ok (.goto (-47), 3) := by decide +kernel
theorem dAg_holding_53 : decode cAg_holding 53 = .ok (.iconst (-1), 1) := by decide +kernel
theorem dAg_holding_54 : decode cAg_holding 54 = .ok (.ireturn, 1) := by decide +kernel
theorem dAg_holdsAt_0 : decode cAg_holdsAt 0 = .ok (.iload_n 2, 1) := by decide +kernel
theorem dAg_holdsAt_1 : decode cAg_holdsAt 1 = .ok (.aload_n 0, 1) := by decide +kernel
theorem dAg_holdsAt_2 : decode cAg_holdsAt 2 = .ok (.getfield 18, 3) := by decide +kernel
theorem dAg_holdsAt_5 : decode cAg_holdsAt 5 = .ok (.iload_n 1, 1) := by decide +kernel
theorem dAg_holdsAt_6 : decode cAg_holdsAt 6 = .ok (.iaload, 1) := by decide +kernel
theorem dAg_holdsAt_7 : decode cAg_holdsAt 7 = .ok (.if_icmp .lt 13, 3) := by decide +kernel
theorem dAg_holdsAt_10 : decode cAg_holdsAt 10 = .ok (.iload_n 2, 1) := by decide +kernel
theorem dAg_holdsAt_11 : decode cAg_holdsAt 11 = .ok (.aload_n 0, 1) := by decide +kernel
theorem dAg_holdsAt_12 : decode cAg_holdsAt 12 = .ok (.getfield 21, 3) := by decide +kernel
theorem dAg_holdsAt_15 : decode cAg_holdsAt 15 = .ok (.iload_n 1, 1) := by decide +kernel
theorem dAg_holdsAt_16 : decode cAg_holdsAt 16 = .ok (.iaload, 1) := by decide +kernel
theorem dAg_holdsAt_17 : decode cAg_holdsAt 17 = .ok (.if_icmp .lt 5, 3) := by decide +kernel
theorem dAg_holdsAt_20 : decode cAg_holdsAt 20 = .ok (.iconst 0, 1) := by decide +kernel
theorem dAg_holdsAt_21 : decode cAg_holdsAt 21 = .ok (.ireturn, 1) := by decide +kernel
theorem dAg_holdsAt_22 : decode cAg_holdsAt 22 = .ok (.iload_n 2, 1) := by decide +kernel
theorem dAg_holdsAt_23 : decode cAg_holdsAt 23 = .ok (.bipush 60, 2) := by decide +kernel
theorem dAg_holdsAt_25 : decode cAg_holdsAt 25 = .ok (.idiv, 1) := by decide +kernel
theorem dAg_holdsAt_26 : decode cAg_holdsAt 26 = .ok (.bipush 24, 2) := by decide +kernel
theorem dAg_holdsAt_28 : decode cAg_holdsAt 28 = .ok (.irem, 1) := by decide +kernel
theorem dAg_holdsAt_29 : decode cAg_holdsAt 29 = .ok (.istore_n 3, 1) := by decide +kernel
theorem dAg_holdsAt_30 : decode cAg_holdsAt 30 = .ok (.aload_n 0, 1) := by decide +kernel
theorem dAg_holdsAt_31 : decode cAg_holdsAt 31 = .ok (.getfield 24, 3) := by decide +kernel
theorem dAg_holdsAt_34 : decode cAg_holdsAt 34 = .ok (.iload_n 1, 1) := by decide +kernel
theorem dAg_holdsAt_35 : decode cAg_holdsAt 35 = .ok (.iaload, 1) := by decide +kernel
theorem dAg_holdsAt_36 : decode cAg_holdsAt 36 = .ok (.bipush 100, 2) := by decide +kernel
theorem dAg_holdsAt_38 : decode cAg_holdsAt 38 = .ok (.idiv, 1) := by decide +kernel
theorem dAg_holdsAt_39 : decode cAg_holdsAt 39 = .ok (.istore 4, 2) := by decide +kernel
theorem dAg_holdsAt_41 : decode cAg_holdsAt 41 = .ok (.aload_n 0, 1) := by decide +kernel
theorem dAg_holdsAt_42 : decode cAg_holdsAt 42 = .ok (.getfield 24, 3) := by decide +kernel
theorem dAg_holdsAt_45 : decode cAg_holdsAt 45 = .ok (.iload_n 1, 1) := by decide +kernel
theorem dAg_holdsAt_46 : decode cAg_holdsAt 46 = .ok (.iaload, 1) := by decide +kernel
theorem dAg_holdsAt_47 : decode cAg_holdsAt 47 = .ok (.bipush 100, 2) := by decide +kernel
theorem dAg_holdsAt_49 : decode cAg_holdsAt 49 = .ok (.irem, 1) := by decide +kernel
theorem dAg_holdsAt_50 : decode cAg_holdsAt 50 = .ok (.istore 5, 2) := by decide +kernel
theorem dAg_holdsAt_52 : decode cAg_holdsAt 52 = .ok (.iload 5, 2) := by decide +kernel
theorem dAg_holdsAt_54 : decode cAg_holdsAt 54 = .ok (.iload 4, 2) := by decide +kernel
theorem dAg_holdsAt_56 : decode cAg_holdsAt 56 = .ok (.if_icmp .ge 7, 3) := by decide +kernel
theorem dAg_holdsAt_59 : decode cAg_holdsAt 59 = .ok (.iconst 1, 1) := by decide +kernel
theorem dAg_holdsAt_60 : decode cAg_holdsAt 60 = .ok (.goto 4, 3) := by decide +kernel
theorem dAg_holdsAt_63 : decode cAg_holdsAt 63 = .ok (.iconst 0, 1) := by decide +kernel
theorem dAg_holdsAt_64 : decode cAg_holdsAt 64 = .ok (.istore 6, 2) := by decide +kernel
theorem dAg_holdsAt_66 : decode cAg_holdsAt 66 = .ok (.iload 6, 2) := by decide +kernel
theorem dAg_holdsAt_68 : decode cAg_holdsAt 68 = .ok (.ifCond .eq 23, 3) := by decide +kernel
theorem dAg_holdsAt_71 : decode cAg_holdsAt 71 = .ok (.iload_n 3, 1) := by decide +kernel
theorem dAg_holdsAt_72 : decode cAg_holdsAt 72 = .ok (.iload 4, 2) := by decide +kernel
theorem dAg_holdsAt_74 : decode cAg_holdsAt 74 = .ok (.if_icmp .ge 9, 3) := by decide +kernel
theorem dAg_holdsAt_77 : decode cAg_holdsAt 77 = .ok (.iload_n 3, 1) := by decide +kernel
theorem dAg_holdsAt_78 : decode cAg_holdsAt 78 = .ok (.iload 5, 2) := by decide +kernel
theorem dAg_holdsAt_80 : decode cAg_holdsAt 80 = .ok (.if_icmp .gt 7, 3) := by decide +kernel
theorem dAg_holdsAt_83 : decode cAg_holdsAt 83 = .ok (.iconst 1, 1) := by decide +kernel
theorem dAg_holdsAt_84 : decode cAg_holdsAt 84 = .ok (.goto 24, 3) := by decide +kernel
theorem dAg_holdsAt_87 : decode cAg_holdsAt 87 = .ok (.iconst 0, 1) := by decide +kernel
theorem dAg_holdsAt_88 : decode cAg_holdsAt 88 = .ok (.goto 20, 3) := by decide +kernel
theorem dAg_holdsAt_91 : decode cAg_holdsAt 91 = .ok (.iload_n 3, 1) := by decide +kernel
theorem dAg_holdsAt_92 : decode cAg_holdsAt 92 = .ok (.iload 4, 2) := by decide +kernel
theorem dAg_holdsAt_94 : decode cAg_holdsAt 94 = .ok (.if_icmp .lt 13, 3) := by decide +kernel
theorem dAg_holdsAt_97 : decode cAg_holdsAt 97 = .ok (.iload_n 3, 1) := by decide +kernel
theorem dAg_holdsAt_98 : decode cAg_holdsAt 98 = .ok (.iload 5, 2) := by decide +kernel
theorem dAg_holdsAt_100 : decode cAg_holdsAt 100 = .ok (.if_icmp .gt 7, 3) := by decide +kernel
theorem dAg_holdsAt_103 : decode cAg_holdsAt 103 = .ok (.iconst 1, 1) := by decide +kernel
theorem dAg_holdsAt_104 : decode cAg_holdsAt 104 = .ok (.goto 4, 3) := by decide +kernel
theorem dAg_holdsAt_107 : decode cAg_holdsAt 107 = .ok (.iconst 0, 1) := by decide +kernel
theorem dAg_holdsAt_108 : decode cAg_holdsAt 108 = .ok (.ireturn, 1) := by decide +kernel
theorem dAs_init_0 : decode cAs_init 0 = .ok (.aload_n 0, 1) := by decide +kernel
theorem dAs_init_1 : decode cAs_init 1 = .ok (.invokespecial 3, 3) := by decide +kernel
theorem dAs_init_4 : decode cAs_init 4 = .ok (.aload_n 0, 1) := by decide +kernel
theorem dAs_init_5 : decode cAs_init 5 = .ok (.bipush 30, 2) := by decide +kernel
theorem dAs_init_7 : decode cAs_init 7 = .ok (.newarray .int, 2) := by decide +kernel
theorem dAs_init_9 : decode cAs_init 9 = .ok (.putfield 9, 3) := by decide +kernel
theorem dAs_init_12 : decode cAs_init 12 = .ok (.aload_n 0, 1) := by decide +kernel
theorem dAs_init_13 : decode cAs_init 13 = .ok (.bipush 30, 2) := by decide +kernel
theorem dAs_init_15 : decode cAs_init 15 = .ok (.newarray .int, 2) := by decide +kernel
theorem dAs_init_17 : decode cAs_init 17 = .ok (.putfield 15, 3) := by decide +kernel
theorem dAs_init_20 : decode cAs_init 20 = .ok (.aload_n 0, 1) := by decide +kernel
theorem dAs_init_21 : decode cAs_init 21 = .ok (.bipush 30, 2) := by decide +kernel
theorem dAs_init_23 : decode cAs_init 23 = .ok (.newarray .int, 2) := by decide +kernel
theorem dAs_init_25 : decode cAs_init 25 = .ok (.putfield 18, 3) := by decide +kernel
theorem dAs_init_28 : decode cAs_init 28 = .ok (.aload_n 0, 1) := by decide +kernel
theorem dAs_init_29 : decode cAs_init 29 = .ok (.bipush 30, 2) := by decide +kernel
theorem dAs_init_31 : decode cAs_init 31 = .ok (.newarray .int, 2) := by decide +kernel
theorem dAs_init_33 : decode cAs_init 33 = .ok (.putfield 21, 3) := by decide +kernel
theorem dAs_init_36 : decode cAs_init 36 = .ok (.aload_n 0, 1) := by decide +kernel
theorem dAs_init_37 : decode cAs_init 37 = .ok (.bipush 30, 2) := by decide +kernel
theorem dAs_init_39 : decode cAs_init 39 = .ok (.newarray .int, 2) := by decide +kernel
theorem dAs_init_41 : decode cAs_init 41 = .ok (.putfield 24, 3) := by decide +kernel
theorem dAs_init_44 : decode cAs_init 44 = .ok (.aload_n 0, 1) := by decide +kernel
theorem dAs_init_45 : decode cAs_init 45 = .ok (.bipush 30, 2) := by decide +kernel
theorem dAs_init_47 : decode cAs_init 47 = .ok (.newarray .int, 2) := by decide +kernel
theorem dAs_init_49 : decode cAs_init 49 = .ok (.putfield 27, 3) := by decide +kernel
theorem dAs_init_52 : decode cAs_init 52 = .ok (.aload_n 0, 1) := by decide +kernel
theorem dAs_init_53 : decode cAs_init 53 = .ok (.bipush 30, 2) := by decide +kernel
theorem dAs_init_55 : decode cAs_init 55 = .ok (.newarray .int, 2) := by decide +kernel
theorem dAs_init_57 : decode cAs_init 57 = .ok (.putfield 30, 3) := by decide +kernel
theorem dAs_init_60 : decode cAs_init 60 = .ok (.aload_n 0, 1) := by decide +kernel
theorem dAs_init_61 : decode cAs_init 61 = .ok (.bipush 30, 2) := by decide +kernel
theorem dAs_init_63 : decode cAs_init 63 = .ok (.newarray .int, 2) := by decide +kernel
theorem dAs_init_65 : decode cAs_init 65 = .ok (.putfield 33, 3) := by decide +kernel
theorem dAs_init_68 : decode cAs_init 68 = .ok (.aload_n 0, 1) := by decide +kernel
theorem dAs_init_69 : decode cAs_init 69 = .ok (.bipush 30, 2) := by decide +kernel
theorem dAs_init_71 : decode cAs_init 71 = .ok (.newarray .boolean, 2) := by decide +kernel
theorem dAs_init_73 : decode cAs_init 73 = .ok (.putfield 36, 3) := by decide +kernel
theorem dAs_init_76 : decode cAs_init 76 = .ok (.return_, 1) := by decide +kernel
theorem dAs_has_0 : decode cAs_has 0 = .ok (.iload_n 1, 1) := by decide +kernel
theorem dAs_has_1 : decode cAs_has 1 = .ok (.ifCond .lt 15, 3) := by decide +kernel
theorem dAs_has_4 : decode cAs_has 4 = .ok (.iload_n 1, 1) := by decide +kernel
theorem dAs_has_5 : decode cAs_has 5 = .ok (.aload_n 0, 1) := by decide +kernel
theorem dAs_has_6 : decode cAs_has 6 = .ok (.getfield 40, 3) := by decide +kernel
theorem dAs_has_9 : decode cAs_has 9 = .ok (.if_icmp .ge 7, 3) := by decide +kernel
theorem dAs_has_12 : decode cAs_has 12 = .ok (.iconst 1, 1) := by decide +kernel
theorem dAs_has_13 : decode cAs_has 13 = .ok (.goto 4, 3) := by decide +kernel
theorem dAs_has_16 : decode cAs_has 16 = .ok (.iconst 0, 1) := by decide +kernel
theorem dAs_has_17 : decode cAs_has 17 = .ok (.ireturn, 1) := by decide +kernel
theorem dAs_isFull_0 : decode cAs_isFull 0 = .ok (.aload_n 0, 1) := by decide +kernel
theorem dAs_isFull_1 : decode cAs_isFull 1 = .ok (.getfield 40, 3) := by decide +kernel
theorem dAs_isFull_4 : decode cAs_isFull 4 = .ok (.bipush 30, 2) := by decide +kernel
theorem dAs_isFull_6 : decode cAs_isFull 6 = .ok (.if_icmp .lt 7, 3) := by decide +kernel
theorem dAs_isFull_9 : decode cAs_isFull 9 = .ok (.iconst 1, 1) := by decide +kernel
theorem dAs_isFull_10 : decode cAs_isFull 10 = .ok (.goto 4, 3) := by decide +kernel
theorem dAs_isFull_13 : decode cAs_isFull 13 = .ok (.iconst 0, 1) := by decide +kernel
theorem dAs_isFull_14 : decode cAs_isFull 14 = .ok (.ireturn, 1) := by decide +kernel
theorem dAs_add_0 : decode cAs_add 0 = .ok (.aload_n 0, 1) := by decide +kernel
theorem dAs_add_1 : decode cAs_add 1 = .ok (.getfield 9, 3) := by decide +kernel
theorem dAs_add_4 : decode cAs_add 4 = .ok (.aload_n 0, 1) := by decide +kernel
theorem dAs_add_5 : decode cAs_add 5 = .ok (.getfield 40, 3) := by decide +kernel
theorem dAs_add_8 : decode cAs_add 8 = .ok (.iload_n 1, 1) := by decide +kernel
theorem dAs_add_9 : decode cAs_add 9 = .ok (.iastore, 1) := by decide +kernel
theorem dAs_add_10 : decode cAs_add 10 = .ok (.aload_n 0, 1) := by decide +kernel
theorem dAs_add_11 : decode cAs_add 11 = .ok (.getfield 15, 3) := by decide +kernel
theorem dAs_add_14 : decode cAs_add 14 = .ok (.aload_n 0, 1) := by decide +kernel
theorem dAs_add_15 : decode cAs_add 15 = .ok (.getfield 40, 3) := by decide +kernel
theorem dAs_add_18 : decode cAs_add 18 = .ok (.iload_n 2, 1) := by decide +kernel
theorem dAs_add_19 : decode cAs_add 19 = .ok (.iastore, 1) := by decide +kernel
theorem dAs_add_20 : decode cAs_add 20 = .ok (.aload_n 0, 1) := by decide +kernel
theorem dAs_add_21 : decode cAs_add 21 = .ok (.getfield 18, 3) := by decide +kernel
theorem dAs_add_24 : decode cAs_add 24 = .ok (.aload_n 0, 1) := by decide +kernel
theorem dAs_add_25 : decode cAs_add 25 = .ok (.getfield 40, 3) := by decide +kernel
theorem dAs_add_28 : decode cAs_add 28 = .ok (.iload_n 3, 1) := by decide +kernel
theorem dAs_add_29 : decode cAs_add 29 = .ok (.iastore, 1) := by decide +kernel
theorem dAs_add_30 : decode cAs_add 30 = .ok (.aload_n 0, 1) := by decide +kernel
theorem dAs_add_31 : decode cAs_add 31 = .ok (.getfield 21, 3) := by decide +kernel
theorem dAs_add_34 : decode cAs_add 34 = .ok (.aload_n 0, 1) := by decide +kernel
theorem dAs_add_35 : decode cAs_add 35 = .ok (.getfield 40, 3) := by decide +kernel
theorem dAs_add_38 : decode cAs_add 38 = .ok (.iconst 0, 1) := by decide +kernel
theorem dAs_add_39 : decode cAs_add 39 = .ok (.iastore, 1) := by decide +kernel
theorem dAs_add_40 : decode cAs_add 40 = .ok (.aload_n 0, 1) := by decide +kernel
theorem dAs_add_41 : decode cAs_add 41 = .ok (.dup, 1) := by decide +kernel
theorem dAs_add_42 : decode cAs_add 42 = .ok (.getfield 40, 3) := by decide +kernel
theorem dAs_add_45 : decode cAs_add 45 = .ok (.dup_x1, 1) := by decide +kernel
theorem dAs_add_46 : decode cAs_add 46 = .ok (.iconst 1, 1) := by decide +kernel
theorem dAs_add_47 : decode cAs_add 47 = .ok (.iadd, 1) := by decide +kernel
theorem dAs_add_48 : decode cAs_add 48 = .ok (.putfield 40, 3) := by decide +kernel
theorem dAs_add_51 : decode cAs_add 51 = .ok (.ireturn, 1) := by decide +kernel
theorem dAs_move_0 : decode cAs_move 0 = .ok (.aload_n 0, 1) := by decide +kernel
theorem dAs_move_1 : decode cAs_move 1 = .ok (.getfield 24, 3) := by decide +kernel
theorem dAs_move_4 : decode cAs_move 4 = .ok (.iload_n 1, 1) := by decide +kernel
theorem dAs_move_5 : decode cAs_move 5 = .ok (.iload_n 2, 1) := by decide +kernel
theorem dAs_move_6 : decode cAs_move 6 = .ok (.iastore, 1) := by decide +kernel
theorem dAs_move_7 : decode cAs_move 7 = .ok (.aload_n 0, 1) := by decide +kernel
theorem dAs_move_8 : decode cAs_move 8 = .ok (.getfield 27, 3) := by decide +kernel
theorem dAs_move_11 : decode cAs_move 11 = .ok (.iload_n 1, 1) := by decide +kernel
theorem dAs_move_12 : decode cAs_move 12 = .ok (.iload_n 3, 1) := by decide +kernel
theorem dAs_move_13 : decode cAs_move 13 = .ok (.iastore, 1) := by decide +kernel
theorem dAs_move_14 : decode cAs_move 14 = .ok (.aload_n 0, 1) := by decide +kernel
theorem dAs_move_15 : decode cAs_move 15 = .ok (.getfield 33, 3) := by decide +kernel
theorem dAs_move_18 : decode cAs_move 18 = .ok (.iload_n 1, 1) := by decide +kernel
theorem dAs_move_19 : decode cAs_move 19 = .ok (.dup2, 1) := by decide +kernel
theorem dAs_move_20 : decode cAs_move 20 = .ok (.iaload, 1) := by decide +kernel
theorem dAs_move_21 : decode cAs_move 21 = .ok (.iconst 1, 1) := by decide +kernel
theorem dAs_move_22 : decode cAs_move 22 = .ok (.iload_n 2, 1) := by decide +kernel
theorem dAs_move_23 : decode cAs_move 23 = .ok (.ishl, 1) := by decide +kernel
theorem dAs_move_24 : decode cAs_move 24 = .ok (.ior, 1) := by decide +kernel
theorem dAs_move_25 : decode cAs_move 25 = .ok (.iastore, 1) := by decide +kernel
theorem dAs_move_26 : decode cAs_move 26 = .ok (.aload_n 0, 1) := by decide +kernel
theorem dAs_move_27 : decode cAs_move 27 = .ok (.getfield 36, 3) := by decide +kernel
theorem dAs_move_30 : decode cAs_move 30 = .ok (.iload_n 1, 1) := by decide +kernel
theorem dAs_move_31 : decode cAs_move 31 = .ok (.iload 4, 2) := by decide +kernel
theorem dAs_move_33 : decode cAs_move 33 = .ok (.bastore, 1) := by decide +kernel
theorem dAs_move_34 : decode cAs_move 34 = .ok (.return_, 1) := by decide +kernel
theorem dAs_close_0 : decode cAs_close 0 = .ok (.aload_n 0, 1) := by decide +kernel
theorem dAs_close_1 : decode cAs_close 1 = .ok (.getfield 21, 3) := by decide +kernel
theorem dAs_close_4 : decode cAs_close 4 = .ok (.iload_n 1, 1) := by decide +kernel
theorem dAs_close_5 : decode cAs_close 5 = .ok (.iload_n 2, 1) := by decide +kernel
theorem dAs_close_6 : decode cAs_close 6 = .ok (.iastore, 1) := by decide +kernel
theorem dAs_close_7 : decode cAs_close 7 = .ok (.aload_n 0, 1) := by decide +kernel
theorem dAs_close_8 : decode cAs_close 8 = .ok (.getfield 24, 3) := by decide +kernel
theorem dAs_close_11 : decode cAs_close 11 = .ok (.iload_n 1, 1) := by decide +kernel
theorem dAs_close_12 : decode cAs_close 12 = .ok (.iconst (-1), 1) := by decide +kernel
theorem dAs_close_13 : decode cAs_close 13 = .ok (.iastore, 1) := by decide +kernel
theorem dAs_close_14 : decode cAs_close 14 = .ok (.aload_n 0, 1) := by decide +kernel
theorem dAs_close_15 : decode cAs_close 15 = .ok (.getfield 27, 3) := by decide +kernel
theorem dAs_close_18 : decode cAs_close 18 = .ok (.iload_n 1, 1) := by decide +kernel
theorem dAs_close_19 : decode cAs_close 19 = .ok (.iconst 0, 1) := by decide +kernel
theorem dAs_close_20 : decode cAs_close 20 = .ok (.iastore, 1) := by decide +kernel
theorem dAs_close_21 : decode cAs_close 21 = .ok (.aload_n 0, 1) := by decide +kernel
theorem dAs_close_22 : decode cAs_close 22 = .ok (.getfield 36, 3) := by decide +kernel
theorem dAs_close_25 : decode cAs_close 25 = .ok (.iload_n 1, 1) := by decide +kernel
theorem dAs_close_26 : decode cAs_close 26 = .ok (.iconst 0, 1) := by decide +kernel
theorem dAs_close_27 : decode cAs_close 27 = .ok (.bastore, 1) := by decide +kernel
theorem dAs_close_28 : decode cAs_close 28 = .ok (.return_, 1) := by decide +kernel
theorem dAs_isOpen_0 : decode cAs_isOpen 0 = .ok (.aload_n 0, 1) := by decide +kernel
theorem dAs_isOpen_1 : decode cAs_isOpen 1 = .ok (.getfield 21, 3) := by decide +kernel
theorem dAs_isOpen_4 : decode cAs_isOpen 4 = .ok (.iload_n 1, 1) := by decide +kernel
theorem dAs_isOpen_5 : decode cAs_isOpen 5 = .ok (.iaload, 1) := by decide +kernel
theorem dAs_isOpen_6 : decode cAs_isOpen 6 = .ok (.ifCond .ne 7, 3) := by decide +kernel
theorem dAs_isOpen_9 : decode cAs_isOpen 9 = .ok (.iconst 1, 1) := by decide +kernel
theorem dAs_isOpen_10 : decode cAs_isOpen 10 = .ok (.goto 4, 3) := by decide +kernel
theorem dAs_isOpen_13 : decode cAs_isOpen 13 = .ok (.iconst 0, 1) := by decide +kernel
theorem dAs_isOpen_14 : decode cAs_isOpen 14 = .ok (.ireturn, 1) := by decide +kernel
theorem dAs_isOpenAt_0 : decode cAs_isOpenAt 0 = .ok (.aload_n 0, 1) := by decide +kernel
theorem dAs_isOpenAt_1 : decode cAs_isOpenAt 1 = .ok (.iload_n 1, 1) := by decide +kernel
theorem dAs_isOpenAt_2 : decode cAs_isOpenAt 2 = .ok (.invokevirtual 44, 3) := by decide +kernel
theorem dAs_isOpenAt_5 : decode cAs_isOpenAt 5 = .ok (.ifCond .eq 17, 3) := by decide +kernel
theorem dAs_isOpenAt_8 : decode cAs_isOpenAt 8 = .ok (.aload_n 0, 1) := by decide +kernel
theorem dAs_isOpenAt_9 : decode cAs_isOpenAt 9 = .ok (.getfield 24, 3) := by decide +kernel
theorem dAs_isOpenAt_12 : decode cAs_isOpenAt 12 = .ok (.iload_n 1, 1) := by decide +kernel
theorem dAs_isOpenAt_13 : decode cAs_isOpenAt 13 = .ok (.iaload, 1) := by decide +kernel
theorem dAs_isOpenAt_14 : decode cAs_isOpenAt 14 = .ok (.iload_n 2, 1) := by decide +kernel
theorem dAs_isOpenAt_15 : decode cAs_isOpenAt 15 = .ok (.if_icmp .ne 7, 3) := by decide +kernel
theorem dAs_isOpenAt_18 : decode cAs_isOpenAt 18 = .ok (.iconst 1, 1) := by decide +kernel
theorem dAs_isOpenAt_19 : decode cAs_isOpenAt 19 = .ok (.goto 4, 3) := by decide +kernel
theorem dAs_isOpenAt_22 : decode cAs_isOpenAt 22 = .ok (.iconst 0, 1) := by decide +kernel
theorem dAs_isOpenAt_23 : decode cAs_isOpenAt 23 = .ok (.ireturn, 1) := by decide +kernel
theorem dAs_wasAt_0 : decode cAs_wasAt 0 = .ok (.aload_n 0, 1) := by decide +kernel
theorem dAs_wasAt_1 : decode cAs_wasAt 1 = .ok (.getfield 33, 3) := by decide +kernel
theorem dAs_wasAt_4 : decode cAs_wasAt 4 = .ok (.iload_n 1, 1) := by decide +kernel
theorem dAs_wasAt_5 : decode cAs_wasAt 5 = .ok (.iaload, 1) := by decide +kernel
theorem dAs_wasAt_6 : decode cAs_wasAt 6 = .ok (.iload_n 2, 1) := by decide +kernel
theorem dAs_wasAt_7 : decode cAs_wasAt 7 = .ok (.ishr, 1) := by decide +kernel
theorem dAs_wasAt_8 : decode cAs_wasAt 8 = .ok (.iconst 1, 1) := by decide +kernel
theorem dAs_wasAt_9 : decode cAs_wasAt 9 = .ok (.iand, 1) := by decide +kernel
theorem dAs_wasAt_10 : decode cAs_wasAt 10 = .ok (.iconst 1, 1) := by decide +kernel
theorem dAs_wasAt_11 : decode cAs_wasAt 11 = .ok (.if_icmp .ne 7, 3) := by decide +kernel
theorem dAs_wasAt_14 : decode cAs_wasAt 14 = .ok (.iconst 1, 1) := by decide +kernel
theorem dAs_wasAt_15 : decode cAs_wasAt 15 = .ok (.goto 4, 3) := by decide +kernel
theorem dAs_wasAt_18 : decode cAs_wasAt 18 = .ok (.iconst 0, 1) := by decide +kernel
theorem dAs_wasAt_19 : decode cAs_wasAt 19 = .ok (.ireturn, 1) := by decide +kernel
theorem dAs_visits_0 : decode cAs_visits 0 = .ok (.aload_n 0, 1) := by decide +kernel
theorem dAs_visits_1 : decode cAs_visits 1 = .ok (.getfield 33, 3) := by decide +kernel
theorem dAs_visits_4 : decode cAs_visits 4 = .ok (.iload_n 1, 1) := by decide +kernel
theorem dAs_visits_5 : decode cAs_visits 5 = .ok (.iaload, 1) := by decide +kernel
theorem dAs_visits_6 : decode cAs_visits 6 = .ok (.invokestatic 48, 3) := by decide +kernel
theorem dAs_visits_9 : decode cAs_visits 9 = .ok (.ireturn, 1) := by decide +kernel
theorem dAs_wanting_0 : decode cAs_wanting 0 = .ok (.aload_n 0, 1) := by decide +kernel
theorem dAs_wanting_1 : decode cAs_wanting 1 = .ok (.getfield 15, 3) := by decide +kernel
theorem dAs_wanting_4 : decode cAs_wanting 4 = .ok (.iload_n 1, 1) := by decide +kernel
theorem dAs_wanting_5 : decode cAs_wanting 5 = .ok (.iaload, 1) := by decide +kernel
theorem dAs_wanting_6 : decode cAs_wanting 6 = .ok (.aload_n 0, 1) := by decide +kernel
theorem dAs_wanting_7 : decode cAs_wanting 7 = .ok (.getfield 30, 3) := by decide +kernel
theorem dAs_wanting_10 : decode cAs_wanting 10 = .ok (.iload_n 1, 1) := by decide +kernel
theorem dAs_wanting_11 : decode cAs_wanting 11 = .ok (.iaload, 1) := by decide +kernel
theorem dAs_wanting_12 : decode cAs_wanting 12 = .ok (.isub, 1) := by decide +kernel
theorem dAs_wanting_13 : decode cAs_wanting 13 = .ok (.ireturn, 1) := by decide +kernel
theorem dAs_patienceEnd_0 : decode cAs_patienceEnd 0 = .ok (.aload_n 0, 1) := by decide +kernel
theorem dAs_patienceEnd_1 : decode cAs_patienceEnd 1 = .ok (.getfield 27, 3) := by decide +kernel
theorem dAs_patienceEnd_4 : decode cAs_patienceEnd 4 = .ok (.iload_n 1, 1) := by decide +kernel
theorem dAs_patienceEnd_5 : decode cAs_patienceEnd 5 = .ok (.iaload, 1) := by decide +kernel
theorem dAs_patienceEnd_6 : decode cAs_patienceEnd 6 = .ok (.aload_n 0, 1) := by decide +kernel
theorem dAs_patienceEnd_7 : decode cAs_patienceEnd 7 = .ok (.getfield 18, 3) := by decide +kernel
theorem dAs_patienceEnd_10 : decode cAs_patienceEnd 10 = .ok (.iload_n 1, 1) := by decide +kernel
theorem dAs_patienceEnd_11 : decode cAs_patienceEnd 11 = .ok (.iaload, 1) := by decide +kernel
theorem dAs_patienceEnd_12 : decode cAs_patienceEnd 12 = .ok (.iadd, 1) := by decide +kernel
theorem dAs_patienceEnd_13 : decode cAs_patienceEnd 13 = .ok (.ireturn, 1) := by decide +kernel
theorem dAs_open_0 : decode cAs_open 0 = .ok (.iconst 0, 1) := by decide +kernel
theorem dAs_open_1 : decode cAs_open 1 = .ok (.istore_n 1, 1) := by decide +kernel
theorem dAs_open_2 : decode cAs_open 2 = .ok (.iconst 0, 1) := by decide +kernel
theorem dAs_open_3 : decode cAs_open 3 = .ok (.istore_n 2, 1) := by decide +kernel
theorem dAs_open_4 : decode cAs_open 4 = .ok (.iload_n 2, 1) := by decide +kernel
theorem dAs_open_5 : decode cAs_open 5 = .ok (.aload_n 0, 1) := by decide +kernel
theorem dAs_open_6 : decode cAs_open 6 = .ok (.getfield 40, 3) := by decide +kernel
theorem dAs_open_9 : decode cAs_open 9 = .ok (.if_icmp .ge 20, 3) := by decide +kernel
theorem dAs_open_12 : decode cAs_open 12 = .ok (.aload_n 0, 1) := by decide +kernel
theorem dAs_open_13 : decode cAs_open 13 = .ok (.iload_n 2, 1) := by decide +kernel
theorem dAs_open_14 : decode cAs_open 14 = .ok (.invokevirtual 44, 3) := by decide +kernel
theorem dAs_open_17 : decode cAs_open 17 = .ok (.ifCond .eq 6, 3) := by decide +kernel
theorem dAs_open_20 : decode cAs_open 20 = .ok (.iinc 1 1, 3) := by decide +kernel
theorem dAs_open_23 : decode cAs_open 23 = .ok (.iinc 2 1, 3) := by decide +kernel
theorem dAs_open_26 : decode cAs_open 26 = .ok (.goto (-22), 3) := by decide +kernel
theorem dAs_open_29 : decode cAs_open 29 = .ok (.iload_n 1, 1) := by decide +kernel
theorem dAs_open_30 : decode cAs_open 30 = .ok (.ireturn, 1) := by decide +kernel
theorem dLo_init_0 : decode cLo_init 0 = .ok (.aload_n 0, 1) := by decide +kernel
theorem dLo_init_1 : decode cLo_init 1 = .ok (.invokespecial 3, 3) := by decide +kernel
theorem dLo_init_4 : decode cLo_init 4 = .ok (.aload_n 0, 1) := by decide +kernel
theorem dLo_init_5 : decode cLo_init 5 = .ok (.bipush 100, 2) := by decide +kernel
theorem dLo_init_7 : decode cLo_init 7 = .ok (.newarray .int, 2) := by decide +kernel
theorem dLo_init_9 : decode cLo_init 9 = .ok (.putfield 9, 3) := by decide +kernel
theorem dLo_init_12 : decode cLo_init 12 = .ok (.aload_n 0, 1) := by decide +kernel
theorem dLo_init_13 : decode cLo_init 13 = .ok (.bipush 100, 2) := by decide +kernel
theorem dLo_init_15 : decode cLo_init 15 = .ok (.newarray .int, 2) := by decide +kernel
theorem dLo_init_17 : decode cLo_init 17 = .ok (.putfield 15, 3) := by decide +kernel
theorem dLo_init_20 : decode cLo_init 20 = .ok (.aload_n 0, 1) := by decide +kernel
theorem dLo_init_21 : decode cLo_init 21 = .ok (.bipush 100, 2) := by decide +kernel
theorem dLo_init_23 : decode cLo_init 23 = .ok (.newarray .int, 2) := by decide +kernel
theorem dLo_init_25 : decode cLo_init 25 = .ok (.putfield 18, 3) := by decide +kernel
theorem dLo_init_28 : decode cLo_init 28 = .ok (.aload_n 0, 1) := by decide +kernel
theorem dLo_init_29 : decode cLo_init 29 = .ok (.bipush 100, 2) := by decide +kernel
theorem dLo_init_31 : decode cLo_init 31 = .ok (.newarray .int, 2) := by decide +kernel
theorem dLo_init_33 : decode cLo_init 33 = .ok (.putfield 21, 3) := by decide +kernel
theorem dLo_init_36 : decode cLo_init 36 = .ok (.aload_n 0, 1) := by decide +kernel
theorem dLo_init_37 : decode cLo_init 37 = .ok (.bipush 100, 2) := by decide +kernel
theorem dLo_init_39 : decode cLo_init 39 = .ok (.newarray .int, 2) := by decide +kernel
theorem dLo_init_41 : decode cLo_init 41 = .ok (.putfield 24, 3) := by decide +kernel
theorem dLo_init_44 : decode cLo_init 44 = .ok (.aload_n 0, 1) := by decide +kernel
theorem dLo_init_45 : decode cLo_init 45 = .ok (.bipush 100, 2) := by decide +kernel
theorem dLo_init_47 : decode cLo_init 47 = .ok (.newarray .int, 2) := by decide +kernel
theorem dLo_init_49 : decode cLo_init 49 = .ok (.putfield 27, 3) := by decide +kernel
theorem dLo_init_52 : decode cLo_init 52 = .ok (.return_, 1) := by decide +kernel
theorem dLo_has_0 : decode cLo_has 0 = .ok (.iload_n 1, 1) := by decide +kernel
theorem dLo_has_1 : decode cLo_has 1 = .ok (.ifCond .lt 15, 3) := by decide +kernel
theorem dLo_has_4 : decode cLo_has 4 = .ok (.iload_n 1, 1) := by decide +kernel
theorem dLo_has_5 : decode cLo_has 5 = .ok (.aload_n 0, 1) := by decide +kernel
theorem dLo_has_6 : decode cLo_has 6 = .ok (.getfield 30, 3) := by decide +kernel
theorem dLo_has_9 : decode cLo_has 9 = .ok (.if_icmp .ge 7, 3) := by decide +kernel
theorem dLo_has_12 : decode cLo_has 12 = .ok (.iconst 1, 1) := by decide +kernel
theorem dLo_has_13 : decode cLo_has 13 = .ok (.goto 4, 3) := by decide +kernel
theorem dLo_has_16 : decode cLo_has 16 = .ok (.iconst 0, 1) := by decide +kernel
theorem dLo_has_17 : decode cLo_has 17 = .ok (.ireturn, 1) := by decide +kernel
theorem dLo_room_0 : decode cLo_room 0 = .ok (.bipush 100, 2) := by decide +kernel
theorem dLo_room_2 : decode cLo_room 2 = .ok (.aload_n 0, 1) := by decide +kernel
theorem dLo_room_3 : decode cLo_room 3 = .ok (.getfield 30, 3) := by decide +kernel
theorem dLo_room_6 : decode cLo_room 6 = .ok (.isub, 1) := by decide +kernel
theorem dLo_room_7 : decode cLo_room 7 = .ok (.ireturn, 1) := by decide +kernel
theorem dLo_add_0 : decode cLo_add 0 = .ok (.aload_n 0, 1) := by decide +kernel
theorem dLo_add_1 : decode cLo_add 1 = .ok (.getfield 15, 3) := by decide +kernel
theorem dLo_add_4 : decode cLo_add 4 = .ok (.aload_n 0, 1) := by decide +kernel
theorem dLo_add_5 : decode cLo_add 5 = .ok (.getfield 30, 3) := by decide +kernel
theorem dLo_add_8 : decode cLo_add 8 = .ok (.aload_n 0, 1) := by decide +kernel
theorem dLo_add_9 : decode cLo_add 9 = .ok (.iload_n 1, 1) := by decide +kernel
theorem dLo_add_10 : decode cLo_add 10 = .ok (.invokevirtual 34, 3) := by decide +kernel
theorem dLo_add_13 : decode cLo_add 13 = .ok (.iastore, 1) := by decide +kernel
theorem dLo_add_14 : decode cLo_add 14 = .ok (.aload_n 0, 1) := by decide +kernel
theorem dLo_add_15 : decode cLo_add 15 = .ok (.getfield 9, 3) := by decide +kernel
theorem dLo_add_18 : decode cLo_add 18 = .ok (.aload_n 0, 1) := by decide +kernel
theorem dLo_add_19 : decode cLo_add 19 = .ok (.getfield 30, 3) := by decide +kernel
theorem dLo_add_22 : decode cLo_add 22 = .ok (.iload_n 1, 1) := by decide +kernel
theorem dLo_add_23 : decode cLo_add 23 = .ok (.iastore, 1) := by decide +kernel
theorem dLo_add_24 : decode cLo_add 24 = .ok (.aload_n 0, 1) := by decide +kernel
theorem dLo_add_25 : decode cLo_add 25 = .ok (.getfield 18, 3) := by decide +kernel
theorem dLo_add_28 : decode cLo_add 28 = .ok (.aload_n 0, 1) := by decide +kernel
theorem dLo_add_29 : decode cLo_add 29 = .ok (.getfield 30, 3) := by decide +kernel
theorem dLo_add_32 : decode cLo_add 32 = .ok (.iload_n 2, 1) := by decide +kernel
theorem dLo_add_33 : decode cLo_add 33 = .ok (.iastore, 1) := by decide +kernel
theorem dLo_add_34 : decode cLo_add 34 = .ok (.aload_n 0, 1) := by decide +kernel
theorem dLo_add_35 : decode cLo_add 35 = .ok (.getfield 21, 3) := by decide +kernel
theorem dLo_add_38 : decode cLo_add 38 = .ok (.aload_n 0, 1) := by decide +kernel
theorem dLo_add_39 : decode cLo_add 39 = .ok (.getfield 30, 3) := by decide +kernel
theorem dLo_add_42 : decode cLo_add 42 = .ok (.iload_n 3, 1) := by decide +kernel
theorem dLo_add_43 : decode cLo_add 43 = .ok (.iastore, 1) := by decide +kernel
theorem dLo_add_44 : decode cLo_add 44 = .ok (.aload_n 0, 1) := by decide +kernel
theorem dLo_add_45 : decode cLo_add 45 = .ok (.getfield 24, 3) := by decide +kernel
theorem dLo_add_48 : decode cLo_add 48 = .ok (.aload_n 0, 1) := by decide +kernel
theorem dLo_add_49 : decode cLo_add 49 = .ok (.getfield 30, 3) := by decide +kernel
theorem dLo_add_52 : decode cLo_add 52 = .ok (.iload 4, 2) := by decide +kernel
theorem dLo_add_54 : decode cLo_add 54 = .ok (.iastore, 1) := by decide +kernel
theorem dLo_add_55 : decode cLo_add 55 = .ok (.aload_n 0, 1) := by decide +kernel
theorem dLo_add_56 : decode cLo_add 56 = .ok (.getfield 27, 3) := by decide +kernel
theorem dLo_add_59 : decode cLo_add 59 = .ok (.aload_n 0, 1) := by decide +kernel
