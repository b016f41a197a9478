theorem dL_draw_0 : decode cL_draw 0 = .ok (.iload_n 1, 1) := by decide +kernel
theorem dL_draw_1 : decode cL_draw 1 = .ok (.aload_n 0, 1) := by decide +kernel
theorem dL_draw_2 : decode cL_draw 2 = .ok (.arraylength, 1) := by decide +kernel
theorem dL_draw_3 : decode cL_draw 3 = .ok (.if_icmp .ge 9, 3) := by decide +kernel
theorem dL_draw_6 : decode cL_draw 6 = .ok (.aload_n 0, 1) := by decide +kernel
theorem dL_draw_7 : decode cL_draw 7 = .ok (.iload_n 1, 1) := by decide +kernel
theorem dL_draw_8 : decode cL_draw 8 = .ok (.iaload, 1) := by decide +kernel
theorem dL_draw_9 : decode cL_draw 9 = .ok (.goto 14, 3) := by decide +kernel
theorem dL_draw_12 : decode cL_draw 12 = .ok (.ldc 7, 2) := by decide +kernel
theorem dL_draw_14 : decode cL_draw 14 = .ok (.iload_n 1, 1) := by decide +kernel
theorem dL_draw_15 : decode cL_draw 15 = .ok (.sipush 223, 3) := by decide +kernel
theorem dL_draw_18 : decode cL_draw 18 = .ok (.iadd, 1) := by decide +kernel
theorem dL_draw_19 : decode cL_draw 19 = .ok (.imul, 1) := by decide +kernel
theorem dL_draw_20 : decode cL_draw 20 = .ok (.ldc 8, 2) := by decide +kernel
theorem dL_draw_22 : decode cL_draw 22 = .ok (.iadd, 1) := by decide +kernel
theorem dL_draw_23 : decode cL_draw 23 = .ok (.istore_n 3, 1) := by decide +kernel
theorem dL_draw_24 : decode cL_draw 24 = .ok (.iload_n 3, 1) := by decide +kernel
theorem dL_draw_25 : decode cL_draw 25 = .ok (.ldc 9, 2) := by decide +kernel
theorem dL_draw_27 : decode cL_draw 27 = .ok (.iand, 1) := by decide +kernel
theorem dL_draw_28 : decode cL_draw 28 = .ok (.iload_n 2, 1) := by decide +kernel
theorem dL_draw_29 : decode cL_draw 29 = .ok (.irem, 1) := by decide +kernel
theorem dL_draw_30 : decode cL_draw 30 = .ok (.ireturn, 1) := by decide +kernel
theorem dL_writes_0 : decode cL_writes 0 = .ok (.iload_n 1, 1) := by decide +kernel
theorem dL_writes_1 : decode cL_writes 1 = .ok (.ifCond .ne 14, 3) := by decide +kernel
theorem dL_writes_4 : decode cL_writes 4 = .ok (.aload_n 0, 1) := by decide +kernel
theorem dL_writes_5 : decode cL_writes 5 = .ok (.iload_n 2, 1) := by decide +kernel
theorem dL_writes_6 : decode cL_writes 6 = .ok (.iload_n 3, 1) := by decide +kernel
theorem dL_writes_7 : decode cL_writes 7 = .ok (.iload 4, 2) := by decide +kernel
theorem dL_writes_9 : decode cL_writes 9 = .ok (.invokevirtual 10, 3) := by decide +kernel
theorem dL_writes_12 : decode cL_writes 12 = .ok (.goto 25, 3) := by decide +kernel
theorem dL_writes_15 : decode cL_writes 15 = .ok (.iload_n 1, 1) := by decide +kernel
theorem dL_writes_16 : decode cL_writes 16 = .ok (.iconst 1, 1) := by decide +kernel
theorem dL_writes_17 : decode cL_writes 17 = .ok (.if_icmp .ne 14, 3) := by decide +kernel
theorem dL_writes_20 : decode cL_writes 20 = .ok (.aload_n 0, 1) := by decide +kernel
theorem dL_writes_21 : decode cL_writes 21 = .ok (.iload_n 2, 1) := by decide +kernel
theorem dL_writes_22 : decode cL_writes 22 = .ok (.iload_n 3, 1) := by decide +kernel
theorem dL_writes_23 : decode cL_writes 23 = .ok (.iload 4, 2) := by decide +kernel
theorem dL_writes_25 : decode cL_writes 25 = .ok (.invokevirtual 16, 3) := by decide +kernel
theorem dL_writes_28 : decode cL_writes 28 = .ok (.goto 9, 3) := by decide +kernel
theorem dL_writes_31 : decode cL_writes 31 = .ok (.aload_n 0, 1) := by decide +kernel
theorem dL_writes_32 : decode cL_writes 32 = .ok (.iload_n 2, 1) := by decide +kernel
theorem dL_writes_33 : decode cL_writes 33 = .ok (.iload_n 3, 1) := by decide +kernel
theorem dL_writes_34 : decode cL_writes 34 = .ok (.invokevirtual 19, 3) := by decide +kernel
theorem dL_writes_37 : decode cL_writes 37 = .ok (.iconst 0, 1) := by decide +kernel
theorem dL_writes_38 : decode cL_writes 38 = .ok (.ireturn, 1) := by decide +kernel
theorem dL_asks_0 : decode cL_asks 0 = .ok (.iload_n 1, 1) := by decide +kernel
theorem dL_asks_1 : decode cL_asks 1 = .ok (.iconst 3, 1) := by decide +kernel
theorem dL_asks_2 : decode cL_asks 2 = .ok (.if_icmp .ge 15, 3) := by decide +kernel
theorem dL_asks_5 : decode cL_asks 5 = .ok (.aload_n 0, 1) := by decide +kernel
theorem dL_asks_6 : decode cL_asks 6 = .ok (.iload_n 1, 1) := by decide +kernel
theorem dL_asks_7 : decode cL_asks 7 = .ok (.iload_n 2, 1) := by decide +kernel
theorem dL_asks_8 : decode cL_asks 8 = .ok (.iload_n 3, 1) := by decide +kernel
theorem dL_asks_9 : decode cL_asks 9 = .ok (.iload 4, 2) := by decide +kernel
theorem dL_asks_11 : decode cL_asks 11 = .ok (.invokestatic 23, 3) := by decide +kernel
theorem dL_asks_14 : decode cL_asks 14 = .ok (.goto 87, 3) := by decide +kernel
theorem dL_asks_17 : decode cL_asks 17 = .ok (.iload_n 1, 1) := by decide +kernel
theorem dL_asks_18 : decode cL_asks 18 = .ok (.iconst 3, 1) := by decide +kernel
theorem dL_asks_19 : decode cL_asks 19 = .ok (.if_icmp .ne 11, 3) := by decide +kernel
theorem dL_asks_22 : decode cL_asks 22 = .ok (.aload_n 0, 1) := by decide +kernel
theorem dL_asks_23 : decode cL_asks 23 = .ok (.iload_n 2, 1) := by decide +kernel
theorem dL_asks_24 : decode cL_asks 24 = .ok (.invokevirtual 29, 3) := by decide +kernel
theorem dL_asks_27 : decode cL_asks 27 = .ok (.goto 74, 3) := by decide +kernel
theorem dL_asks_30 : decode cL_asks 30 = .ok (.iload_n 1, 1) := by decide +kernel
theorem dL_asks_31 : decode cL_asks 31 = .ok (.iconst 4, 1) := by decide +kernel
theorem dL_asks_32 : decode cL_asks 32 = .ok (.if_icmp .ne 11, 3) := by decide +kernel
theorem dL_asks_35 : decode cL_asks 35 = .ok (.aload_n 0, 1) := by decide +kernel
theorem dL_asks_36 : decode cL_asks 36 = .ok (.iload_n 2, 1) := by decide +kernel
theorem dL_asks_37 : decode cL_asks 37 = .ok (.invokevirtual 33, 3) := by decide +kernel
theorem dL_asks_40 : decode cL_asks 40 = .ok (.goto 61, 3) := by decide +kernel
theorem dL_asks_43 : decode cL_asks 43 = .ok (.iload_n 1, 1) := by decide +kernel
theorem dL_asks_44 : decode cL_asks 44 = .ok (.iconst 5, 1) := by decide +kernel
theorem dL_asks_45 : decode cL_asks 45 = .ok (.if_icmp .ne 11, 3) := by decide +kernel
theorem dL_asks_48 : decode cL_asks 48 = .ok (.aload_n 0, 1) := by decide +kernel
theorem dL_asks_49 : decode cL_asks 49 = .ok (.iload_n 2, 1) := by decide +kernel
theorem dL_asks_50 : decode cL_asks 50 = .ok (.invokevirtual 36, 3) := by decide +kernel
theorem dL_asks_53 : decode cL_asks 53 = .ok (.goto 48, 3) := by decide +kernel
theorem dL_asks_56 : decode cL_asks 56 = .ok (.iload_n 1, 1) := by decide +kernel
theorem dL_asks_57 : decode cL_asks 57 = .ok (.bipush 6, 2) := by decide +kernel
theorem dL_asks_59 : decode cL_asks 59 = .ok (.if_icmp .ne 10, 3) := by decide +kernel
theorem dL_asks_62 : decode cL_asks 62 = .ok (.aload_n 0, 1) := by decide +kernel
theorem dL_asks_63 : decode cL_asks 63 = .ok (.invokevirtual 39, 3) := by decide +kernel
theorem dL_asks_66 : decode cL_asks 66 = .ok (.goto 35, 3) := by decide +kernel
theorem dL_asks_69 : decode cL_asks 69 = .ok (.iload_n 1, 1) := by decide +kernel
theorem dL_asks_70 : decode cL_asks 70 = .ok (.bipush 7, 2) := by decide +kernel
theorem dL_asks_72 : decode cL_asks 72 = .ok (.if_icmp .ne 10, 3) := by decide +kernel
theorem dL_asks_75 : decode cL_asks 75 = .ok (.aload_n 0, 1) := by decide +kernel
theorem dL_asks_76 : decode cL_asks 76 = .ok (.invokevirtual 43, 3) := by decide +kernel
theorem dL_asks_79 : decode cL_asks 79 = .ok (.goto 22, 3) := by decide +kernel
theorem dL_asks_82 : decode cL_asks 82 = .ok (.iload_n 1, 1) := by decide +kernel
theorem dL_asks_83 : decode cL_asks 83 = .ok (.bipush 8, 2) := by decide +kernel
theorem dL_asks_85 : decode cL_asks 85 = .ok (.if_icmp .ne 10, 3) := by decide +kernel
theorem dL_asks_88 : decode cL_asks 88 = .ok (.aload_n 0, 1) := by decide +kernel
theorem dL_asks_89 : decode cL_asks 89 = .ok (.invokestatic 46, 3) := by decide +kernel
theorem dL_asks_92 : decode cL_asks 92 = .ok (.goto 9, 3) := by decide +kernel
theorem dL_asks_95 : decode cL_asks 95 = .ok (.aload_n 0, 1) := by decide +kernel
theorem dL_asks_96 : decode cL_asks 96 = .ok (.iload_n 2, 1) := by decide +kernel
theorem dL_asks_97 : decode cL_asks 97 = .ok (.iload_n 3, 1) := by decide +kernel
theorem dL_asks_98 : decode cL_asks 98 = .ok (.invokestatic 50, 3) := by decide +kernel
theorem dL_asks_101 : decode cL_asks 101 = .ok (.ireturn, 1) := by decide +kernel
theorem dL_asks_102 : decode cL_asks 102 = .ok (.astore 5, 2) := by decide +kernel
theorem dL_asks_104 : decode cL_asks 104 = .ok (.bipush (-9), 2) := by decide +kernel
theorem dL_asks_106 : decode cL_asks 106 = .ok (.ireturn, 1) := by decide +kernel
theorem dL_asks_107 : decode cL_asks 107 = .ok (.astore 5, 2) := by decide +kernel
theorem dL_asks_109 : decode cL_asks 109 = .ok (.bipush (-8), 2) := by decide +kernel
theorem dL_asks_111 : decode cL_asks 111 = .ok (.ireturn, 1) := by decide +kernel
theorem dL_asks_112 : decode cL_asks 112 = .ok (.astore 5, 2) := by decide +kernel
theorem dL_asks_114 : decode cL_asks 114 = .ok (.bipush (-10), 2) := by decide +kernel
theorem dL_asks_116 : decode cL_asks 116 = .ok (.ireturn, 1) := by decide +kernel
theorem dL_undoes_0 : decode cL_undoes 0 = .ok (.aload_n 0, 1) := by decide +kernel
theorem dL_undoes_1 : decode cL_undoes 1 = .ok (.invokevirtual 60, 3) := by decide +kernel
theorem dL_undoes_4 : decode cL_undoes 4 = .ok (.iconst 0, 1) := by decide +kernel
theorem dL_undoes_5 : decode cL_undoes 5 = .ok (.ireturn, 1) := by decide +kernel
theorem dL_starts_0 : decode cL_starts 0 = .ok (.aload_n 0, 1) := by decide +kernel
theorem dL_starts_1 : decode cL_starts 1 = .ok (.iload_n 1, 1) := by decide +kernel
theorem dL_starts_2 : decode cL_starts 2 = .ok (.iload_n 2, 1) := by decide +kernel
theorem dL_starts_3 : decode cL_starts 3 = .ok (.invokevirtual 63, 3) := by decide +kernel
theorem dL_starts_6 : decode cL_starts 6 = .ok (.iconst 0, 1) := by decide +kernel
theorem dL_starts_7 : decode cL_starts 7 = .ok (.ireturn, 1) := by decide +kernel
theorem dL_altered_0 : decode cL_altered 0 = .ok (.iload_n 1, 1) := by decide +kernel
theorem dL_altered_1 : decode cL_altered 1 = .ok (.sipush 1000, 3) := by decide +kernel
theorem dL_altered_4 : decode cL_altered 4 = .ok (.idiv, 1) := by decide +kernel
theorem dL_altered_5 : decode cL_altered 5 = .ok (.istore_n 3, 1) := by decide +kernel
theorem dL_altered_6 : decode cL_altered 6 = .ok (.iload_n 1, 1) := by decide +kernel
theorem dL_altered_7 : decode cL_altered 7 = .ok (.sipush 1000, 3) := by decide +kernel
theorem dL_altered_10 : decode cL_altered 10 = .ok (.irem, 1) := by decide +kernel
theorem dL_altered_11 : decode cL_altered 11 = .ok (.istore 4, 2) := by decide +kernel
theorem dL_altered_13 : decode cL_altered 13 = .ok (.iload_n 1, 1) := by decide +kernel
theorem dL_altered_14 : decode cL_altered 14 = .ok (.ifCond .lt 18, 3) := by decide +kernel
theorem dL_altered_17 : decode cL_altered 17 = .ok (.aload_n 0, 1) := by decide +kernel
theorem dL_altered_18 : decode cL_altered 18 = .ok (.iconst 1, 1) := by decide +kernel
theorem dL_altered_19 : decode cL_altered 19 = .ok (.iaload, 1) := by decide +kernel
theorem dL_altered_20 : decode cL_altered 20 = .ok (.iconst 1, 1) := by decide +kernel
theorem dL_altered_21 : decode cL_altered 21 = .ok (.if_icmp .ne 13, 3) := by decide +kernel
theorem dL_altered_24 : decode cL_altered 24 = .ok (.iload 4, 2) := by decide +kernel
theorem dL_altered_26 : decode cL_altered 26 = .ok (.aload_n 0, 1) := by decide +kernel
theorem dL_altered_27 : decode cL_altered 27 = .ok (.iconst 2, 1) := by decide +kernel
theorem dL_altered_28 : decode cL_altered 28 = .ok (.iaload, 1) := by decide +kernel
theorem dL_altered_29 : decode cL_altered 29 = .ok (.if_icmp .le 5, 3) := by decide +kernel
theorem dL_altered_32 : decode cL_altered 32 = .ok (.iconst (-1), 1) := by decide +kernel
theorem dL_altered_33 : decode cL_altered 33 = .ok (.ireturn, 1) := by decide +kernel
theorem dL_altered_34 : decode cL_altered 34 = .ok (.iload 4, 2) := by decide +kernel
theorem dL_altered_36 : decode cL_altered 36 = .ok (.bipush 99, 2) := by decide +kernel
theorem dL_altered_38 : decode cL_altered 38 = .ok (.if_icmp .le 7, 3) := by decide +kernel
theorem dL_altered_41 : decode cL_altered 41 = .ok (.iconst 3, 1) := by decide +kernel
theorem dL_altered_42 : decode cL_altered 42 = .ok (.goto 15, 3) := by decide +kernel
theorem dL_altered_45 : decode cL_altered 45 = .ok (.iload 4, 2) := by decide +kernel
theorem dL_altered_47 : decode cL_altered 47 = .ok (.bipush 9, 2) := by decide +kernel
theorem dL_altered_49 : decode cL_altered 49 = .ok (.if_icmp .le 7, 3) := by decide +kernel
theorem dL_altered_52 : decode cL_altered 52 = .ok (.iconst 2, 1) := by decide +kernel
theorem dL_altered_53 : decode cL_altered 53 = .ok (.goto 4, 3) := by decide +kernel
theorem dL_altered_56 : decode cL_altered 56 = .ok (.iconst 1, 1) := by decide +kernel
theorem dL_altered_57 : decode cL_altered 57 = .ok (.istore 5, 2) := by decide +kernel
theorem dL_altered_59 : decode cL_altered 59 = .ok (.iload_n 2, 1) := by decide +kernel
theorem dL_altered_60 : decode cL_altered 60 = .ok (.ifCond .ne 20, 3) := by decide +kernel
theorem dL_altered_63 : decode cL_altered 63 = .ok (.aload_n 0, 1) := by decide +kernel
theorem dL_altered_64 : decode cL_altered 64 = .ok (.iconst 1, 1) := by decide +kernel
theorem dL_altered_65 : decode cL_altered 65 = .ok (.iaload, 1) := by decide +kernel
theorem dL_altered_66 : decode cL_altered 66 = .ok (.ifCond .ne 10, 3) := by decide +kernel
theorem dL_altered_69 : decode cL_altered 69 = .ok (.iload_n 3, 1) := by decide +kernel
theorem dL_altered_70 : decode cL_altered 70 = .ok (.bipush 100, 2) := by decide +kernel
theorem dL_altered_72 : decode cL_altered 72 = .ok (.idiv, 1) := by decide +kernel
theorem dL_altered_73 : decode cL_altered 73 = .ok (.goto 70, 3) := by decide +kernel
theorem dL_altered_76 : decode cL_altered 76 = .ok (.iload_n 3, 1) := by decide +kernel
theorem dL_altered_77 : decode cL_altered 77 = .ok (.goto 66, 3) := by decide +kernel
theorem dL_altered_80 : decode cL_altered 80 = .ok (.iload_n 2, 1) := by decide +kernel
theorem dL_altered_81 : decode cL_altered 81 = .ok (.iconst 1, 1) := by decide +kernel
theorem dL_altered_82 : decode cL_altered 82 = .ok (.if_icmp .ne 37, 3) := by decide +kernel
theorem dL_altered_85 : decode cL_altered 85 = .ok (.aload_n 0, 1) := by decide +kernel
theorem dL_altered_86 : decode cL_altered 86 = .ok (.iconst 1, 1) := by decide +kernel
theorem dL_altered_87 : decode cL_altered 87 = .ok (.iaload, 1) := by decide +kernel
