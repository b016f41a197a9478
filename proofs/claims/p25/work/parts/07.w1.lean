theorem dL_altered_88 : decode cL_altered 88 = .ok (.ifCond .ne 10, 3) := by decide +kernel
theorem dL_altered_91 : decode cL_altered 91 = .ok (.iload_n 3, 1) := by decide +kernel
theorem dL_altered_92 : decode cL_altered 92 = .ok (.bipush 100, 2) := by decide +kernel
theorem dL_altered_94 : decode cL_altered 94 = .ok (.irem, 1) := by decide +kernel
theorem dL_altered_95 : decode cL_altered 95 = .ok (.goto 48, 3) := by decide +kernel
theorem dL_altered_98 : decode cL_altered 98 = .ok (.aload_n 0, 1) := by decide +kernel
theorem dL_altered_99 : decode cL_altered 99 = .ok (.iconst 1, 1) := by decide +kernel
theorem dL_altered_100 : decode cL_altered 100 = .ok (.iaload, 1) := by decide +kernel
theorem dL_altered_101 : decode cL_altered 101 = .ok (.iconst 1, 1) := by decide +kernel
theorem dL_altered_102 : decode cL_altered 102 = .ok (.if_icmp .ne 8, 3) := by decide +kernel
theorem dL_altered_105 : decode cL_altered 105 = .ok (.iload 4, 2) := by decide +kernel
theorem dL_altered_107 : decode cL_altered 107 = .ok (.goto 36, 3) := by decide +kernel
theorem dL_altered_110 : decode cL_altered 110 = .ok (.iload 4, 2) := by decide +kernel
theorem dL_altered_112 : decode cL_altered 112 = .ok (.aload_n 0, 1) := by decide +kernel
theorem dL_altered_113 : decode cL_altered 113 = .ok (.iconst 2, 1) := by decide +kernel
theorem dL_altered_114 : decode cL_altered 114 = .ok (.iaload, 1) := by decide +kernel
theorem dL_altered_115 : decode cL_altered 115 = .ok (.imul, 1) := by decide +kernel
theorem dL_altered_116 : decode cL_altered 116 = .ok (.goto 27, 3) := by decide +kernel
theorem dL_altered_119 : decode cL_altered 119 = .ok (.aload_n 0, 1) := by decide +kernel
theorem dL_altered_120 : decode cL_altered 120 = .ok (.iconst 1, 1) := by decide +kernel
theorem dL_altered_121 : decode cL_altered 121 = .ok (.iaload, 1) := by decide +kernel
theorem dL_altered_122 : decode cL_altered 122 = .ok (.ifCond .ne 8, 3) := by decide +kernel
theorem dL_altered_125 : decode cL_altered 125 = .ok (.iload 4, 2) := by decide +kernel
theorem dL_altered_127 : decode cL_altered 127 = .ok (.goto 16, 3) := by decide +kernel
theorem dL_altered_130 : decode cL_altered 130 = .ok (.aload_n 0, 1) := by decide +kernel
theorem dL_altered_131 : decode cL_altered 131 = .ok (.iconst 1, 1) := by decide +kernel
theorem dL_altered_132 : decode cL_altered 132 = .ok (.iaload, 1) := by decide +kernel
theorem dL_altered_133 : decode cL_altered 133 = .ok (.iconst 1, 1) := by decide +kernel
theorem dL_altered_134 : decode cL_altered 134 = .ok (.if_icmp .ne 7, 3) := by decide +kernel
theorem dL_altered_137 : decode cL_altered 137 = .ok (.iconst 0, 1) := by decide +kernel
theorem dL_altered_138 : decode cL_altered 138 = .ok (.goto 5, 3) := by decide +kernel
theorem dL_altered_141 : decode cL_altered 141 = .ok (.iload 5, 2) := by decide +kernel
theorem dL_altered_143 : decode cL_altered 143 = .ok (.ireturn, 1) := by decide +kernel
theorem dL_isEven_0 : decode cL_isEven 0 = .ok (.iconst 1, 1) := by decide +kernel
theorem dL_isEven_1 : decode cL_isEven 1 = .ok (.istore 4, 2) := by decide +kernel
theorem dL_isEven_3 : decode cL_isEven 3 = .ok (.iconst 0, 1) := by decide +kernel
theorem dL_isEven_4 : decode cL_isEven 4 = .ok (.istore 5, 2) := by decide +kernel
theorem dL_isEven_6 : decode cL_isEven 6 = .ok (.iload 5, 2) := by decide +kernel
theorem dL_isEven_8 : decode cL_isEven 8 = .ok (.iconst 3, 1) := by decide +kernel
theorem dL_isEven_9 : decode cL_isEven 9 = .ok (.if_icmp .ge 40, 3) := by decide +kernel
theorem dL_isEven_12 : decode cL_isEven 12 = .ok (.iload 4, 2) := by decide +kernel
theorem dL_isEven_14 : decode cL_isEven 14 = .ok (.ifCond .eq 26, 3) := by decide +kernel
theorem dL_isEven_17 : decode cL_isEven 17 = .ok (.aload_n 0, 1) := by decide +kernel
theorem dL_isEven_18 : decode cL_isEven 18 = .ok (.iload_n 3, 1) := by decide +kernel
theorem dL_isEven_19 : decode cL_isEven 19 = .ok (.iload 5, 2) := by decide +kernel
theorem dL_isEven_21 : decode cL_isEven 21 = .ok (.invokevirtual 66, 3) := by decide +kernel
theorem dL_isEven_24 : decode cL_isEven 24 = .ok (.aload_n 2, 1) := by decide +kernel
theorem dL_isEven_25 : decode cL_isEven 25 = .ok (.aload_n 1, 1) := by decide +kernel
theorem dL_isEven_26 : decode cL_isEven 26 = .ok (.iload_n 3, 1) := by decide +kernel
theorem dL_isEven_27 : decode cL_isEven 27 = .ok (.iaload, 1) := by decide +kernel
theorem dL_isEven_28 : decode cL_isEven 28 = .ok (.iload 5, 2) := by decide +kernel
theorem dL_isEven_30 : decode cL_isEven 30 = .ok (.invokestatic 70, 3) := by decide +kernel
theorem dL_isEven_33 : decode cL_isEven 33 = .ok (.if_icmp .ne 7, 3) := by decide +kernel
theorem dL_isEven_36 : decode cL_isEven 36 = .ok (.iconst 1, 1) := by decide +kernel
theorem dL_isEven_37 : decode cL_isEven 37 = .ok (.goto 4, 3) := by decide +kernel
theorem dL_isEven_40 : decode cL_isEven 40 = .ok (.iconst 0, 1) := by decide +kernel
theorem dL_isEven_41 : decode cL_isEven 41 = .ok (.istore 4, 2) := by decide +kernel
theorem dL_isEven_43 : decode cL_isEven 43 = .ok (.iinc 5 1, 3) := by decide +kernel
theorem dL_isEven_46 : decode cL_isEven 46 = .ok (.goto (-40), 3) := by decide +kernel
theorem dL_isEven_49 : decode cL_isEven 49 = .ok (.iload 4, 2) := by decide +kernel
theorem dL_isEven_51 : decode cL_isEven 51 = .ok (.ireturn, 1) := by decide +kernel
theorem dL_isSeen_0 : decode cL_isSeen 0 = .ok (.aload_n 1, 1) := by decide +kernel
theorem dL_isSeen_1 : decode cL_isSeen 1 = .ok (.iload_n 3, 1) := by decide +kernel
theorem dL_isSeen_2 : decode cL_isSeen 2 = .ok (.iaload, 1) := by decide +kernel
theorem dL_isSeen_3 : decode cL_isSeen 3 = .ok (.ifCond .lt 23, 3) := by decide +kernel
theorem dL_isSeen_6 : decode cL_isSeen 6 = .ok (.aload_n 2, 1) := by decide +kernel
theorem dL_isSeen_7 : decode cL_isSeen 7 = .ok (.iconst 0, 1) := by decide +kernel
theorem dL_isSeen_8 : decode cL_isSeen 8 = .ok (.iaload, 1) := by decide +kernel
theorem dL_isSeen_9 : decode cL_isSeen 9 = .ok (.iconst 2, 1) := by decide +kernel
theorem dL_isSeen_10 : decode cL_isSeen 10 = .ok (.if_icmp .ne 12, 3) := by decide +kernel
theorem dL_isSeen_13 : decode cL_isSeen 13 = .ok (.aload_n 0, 1) := by decide +kernel
theorem dL_isSeen_14 : decode cL_isSeen 14 = .ok (.iload_n 3, 1) := by decide +kernel
theorem dL_isSeen_15 : decode cL_isSeen 15 = .ok (.iconst 0, 1) := by decide +kernel
theorem dL_isSeen_16 : decode cL_isSeen 16 = .ok (.invokevirtual 66, 3) := by decide +kernel
theorem dL_isSeen_19 : decode cL_isSeen 19 = .ok (.ifCond .lt 7, 3) := by decide +kernel
theorem dL_isSeen_22 : decode cL_isSeen 22 = .ok (.iconst 1, 1) := by decide +kernel
theorem dL_isSeen_23 : decode cL_isSeen 23 = .ok (.goto 4, 3) := by decide +kernel
theorem dL_isSeen_26 : decode cL_isSeen 26 = .ok (.iconst 0, 1) := by decide +kernel
theorem dL_isSeen_27 : decode cL_isSeen 27 = .ok (.ireturn, 1) := by decide +kernel
theorem dL_isTold_0 : decode cL_isTold 0 = .ok (.iconst 0, 1) := by decide +kernel
theorem dL_isTold_1 : decode cL_isTold 1 = .ok (.istore_n 3, 1) := by decide +kernel
theorem dL_isTold_2 : decode cL_isTold 2 = .ok (.iconst 0, 1) := by decide +kernel
theorem dL_isTold_3 : decode cL_isTold 3 = .ok (.istore 4, 2) := by decide +kernel
theorem dL_isTold_5 : decode cL_isTold 5 = .ok (.iconst 0, 1) := by decide +kernel
theorem dL_isTold_6 : decode cL_isTold 6 = .ok (.istore 5, 2) := by decide +kernel
theorem dL_isTold_8 : decode cL_isTold 8 = .ok (.bipush 6, 2) := by decide +kernel
theorem dL_isTold_10 : decode cL_isTold 10 = .ok (.newarray .int, 2) := by decide +kernel
theorem dL_isTold_12 : decode cL_isTold 12 = .ok (.astore 6, 2) := by decide +kernel
theorem dL_isTold_14 : decode cL_isTold 14 = .ok (.aload_n 0, 1) := by decide +kernel
theorem dL_isTold_15 : decode cL_isTold 15 = .ok (.invokevirtual 74, 3) := by decide +kernel
theorem dL_isTold_18 : decode cL_isTold 18 = .ok (.aload_n 2, 1) := by decide +kernel
theorem dL_isTold_19 : decode cL_isTold 19 = .ok (.iconst 0, 1) := by decide +kernel
theorem dL_isTold_20 : decode cL_isTold 20 = .ok (.iaload, 1) := by decide +kernel
theorem dL_isTold_21 : decode cL_isTold 21 = .ok (.if_icmp .ne 38, 3) := by decide +kernel
theorem dL_isTold_24 : decode cL_isTold 24 = .ok (.aload_n 0, 1) := by decide +kernel
theorem dL_isTold_25 : decode cL_isTold 25 = .ok (.invokevirtual 77, 3) := by decide +kernel
theorem dL_isTold_28 : decode cL_isTold 28 = .ok (.aload_n 2, 1) := by decide +kernel
theorem dL_isTold_29 : decode cL_isTold 29 = .ok (.iconst 0, 1) := by decide +kernel
theorem dL_isTold_30 : decode cL_isTold 30 = .ok (.iaload, 1) := by decide +kernel
theorem dL_isTold_31 : decode cL_isTold 31 = .ok (.ifCond .ne 7, 3) := by decide +kernel
theorem dL_isTold_34 : decode cL_isTold 34 = .ok (.iconst (-1), 1) := by decide +kernel
theorem dL_isTold_35 : decode cL_isTold 35 = .ok (.goto 6, 3) := by decide +kernel
theorem dL_isTold_38 : decode cL_isTold 38 = .ok (.aload_n 2, 1) := by decide +kernel
theorem dL_isTold_39 : decode cL_isTold 39 = .ok (.iconst 5, 1) := by decide +kernel
theorem dL_isTold_40 : decode cL_isTold 40 = .ok (.iaload, 1) := by decide +kernel
theorem dL_isTold_41 : decode cL_isTold 41 = .ok (.if_icmp .ne 18, 3) := by decide +kernel
theorem dL_isTold_44 : decode cL_isTold 44 = .ok (.aload_n 0, 1) := by decide +kernel
theorem dL_isTold_45 : decode cL_isTold 45 = .ok (.invokevirtual 80, 3) := by decide +kernel
theorem dL_isTold_48 : decode cL_isTold 48 = .ok (.aload_n 2, 1) := by decide +kernel
theorem dL_isTold_49 : decode cL_isTold 49 = .ok (.bipush 6, 2) := by decide +kernel
theorem dL_isTold_51 : decode cL_isTold 51 = .ok (.iaload, 1) := by decide +kernel
theorem dL_isTold_52 : decode cL_isTold 52 = .ok (.if_icmp .ne 7, 3) := by decide +kernel
theorem dL_isTold_55 : decode cL_isTold 55 = .ok (.iconst 1, 1) := by decide +kernel
theorem dL_isTold_56 : decode cL_isTold 56 = .ok (.goto 4, 3) := by decide +kernel
theorem dL_isTold_59 : decode cL_isTold 59 = .ok (.iconst 0, 1) := by decide +kernel
theorem dL_isTold_60 : decode cL_isTold 60 = .ok (.istore 7, 2) := by decide +kernel
theorem dL_isTold_62 : decode cL_isTold 62 = .ok (.iconst 0, 1) := by decide +kernel
theorem dL_isTold_63 : decode cL_isTold 63 = .ok (.istore 8, 2) := by decide +kernel
theorem dL_isTold_65 : decode cL_isTold 65 = .ok (.iload 8, 2) := by decide +kernel
theorem dL_isTold_67 : decode cL_isTold 67 = .ok (.bipush 40, 2) := by decide +kernel
theorem dL_isTold_69 : decode cL_isTold 69 = .ok (.if_icmp .ge 320, 3) := by decide +kernel
theorem dL_isTold_72 : decode cL_isTold 72 = .ok (.iload 7, 2) := by decide +kernel
theorem dL_isTold_74 : decode cL_isTold 74 = .ok (.ifCond .eq 315, 3) := by decide +kernel
theorem dL_isTold_77 : decode cL_isTold 77 = .ok (.aload_n 0, 1) := by decide +kernel
theorem dL_isTold_78 : decode cL_isTold 78 = .ok (.aload_n 1, 1) := by decide +kernel
theorem dL_isTold_79 : decode cL_isTold 79 = .ok (.aload_n 2, 1) := by decide +kernel
theorem dL_isTold_80 : decode cL_isTold 80 = .ok (.iload 8, 2) := by decide +kernel
theorem dL_isTold_82 : decode cL_isTold 82 = .ok (.invokestatic 83, 3) := by decide +kernel
theorem dL_isTold_85 : decode cL_isTold 85 = .ok (.istore 9, 2) := by decide +kernel
theorem dL_isTold_87 : decode cL_isTold 87 = .ok (.aload_n 0, 1) := by decide +kernel
theorem dL_isTold_88 : decode cL_isTold 88 = .ok (.iload 8, 2) := by decide +kernel
theorem dL_isTold_90 : decode cL_isTold 90 = .ok (.iconst 0, 1) := by decide +kernel
theorem dL_isTold_91 : decode cL_isTold 91 = .ok (.invokevirtual 66, 3) := by decide +kernel
theorem dL_isTold_94 : decode cL_isTold 94 = .ok (.ifCond .lt 7, 3) := by decide +kernel
theorem dL_isTold_97 : decode cL_isTold 97 = .ok (.iconst 1, 1) := by decide +kernel
theorem dL_isTold_98 : decode cL_isTold 98 = .ok (.goto 4, 3) := by decide +kernel
theorem dL_isTold_101 : decode cL_isTold 101 = .ok (.iconst 0, 1) := by decide +kernel
theorem dL_isTold_102 : decode cL_isTold 102 = .ok (.istore 10, 2) := by decide +kernel
theorem dL_isTold_104 : decode cL_isTold 104 = .ok (.iload_n 3, 1) := by decide +kernel
theorem dL_isTold_105 : decode cL_isTold 105 = .ok (.iload 9, 2) := by decide +kernel
theorem dL_isTold_107 : decode cL_isTold 107 = .ok (.ifCond .eq 7, 3) := by decide +kernel
theorem dL_isTold_110 : decode cL_isTold 110 = .ok (.iconst 1, 1) := by decide +kernel
theorem dL_isTold_111 : decode cL_isTold 111 = .ok (.goto 4, 3) := by decide +kernel
theorem dL_isTold_114 : decode cL_isTold 114 = .ok (.iconst 0, 1) := by decide +kernel
theorem dL_isTold_115 : decode cL_isTold 115 = .ok (.iadd, 1) := by decide +kernel
theorem dL_isTold_116 : decode cL_isTold 116 = .ok (.istore_n 3, 1) := by decide +kernel
theorem dL_isTold_117 : decode cL_isTold 117 = .ok (.iload 4, 2) := by decide +kernel
theorem dL_isTold_119 : decode cL_isTold 119 = .ok (.iload 10, 2) := by decide +kernel
theorem dL_isTold_121 : decode cL_isTold 121 = .ok (.ifCond .eq 7, 3) := by decide +kernel
theorem dL_isTold_124 : decode cL_isTold 124 = .ok (.iconst 1, 1) := by decide +kernel
theorem dL_isTold_125 : decode cL_isTold 125 = .ok (.goto 4, 3) := by decide +kernel
theorem dL_isTold_128 : decode cL_isTold 128 = .ok (.iconst 0, 1) := by decide +kernel
theorem dL_isTold_129 : decode cL_isTold 129 = .ok (.iadd, 1) := by decide +kernel
theorem dL_isTold_130 : decode cL_isTold 130 = .ok (.istore 4, 2) := by decide +kernel
theorem dL_isTold_132 : decode cL_isTold 132 = .ok (.iload 5, 2) := by decide +kernel
theorem dL_isTold_134 : decode cL_isTold 134 = .ok (.aload_n 2, 1) := by decide +kernel
theorem dL_isTold_135 : decode cL_isTold 135 = .ok (.iconst 0, 1) := by decide +kernel
theorem dL_isTold_136 : decode cL_isTold 136 = .ok (.iaload, 1) := by decide +kernel
theorem dL_isTold_137 : decode cL_isTold 137 = .ok (.ifCond .eq 14, 3) := by decide +kernel
theorem dL_isTold_140 : decode cL_isTold 140 = .ok (.aload_n 0, 1) := by decide +kernel
theorem dL_isTold_141 : decode cL_isTold 141 = .ok (.aload_n 1, 1) := by decide +kernel
theorem dL_isTold_142 : decode cL_isTold 142 = .ok (.aload_n 2, 1) := by decide +kernel
theorem dL_isTold_143 : decode cL_isTold 143 = .ok (.iload 8, 2) := by decide +kernel
theorem dL_isTold_145 : decode cL_isTold 145 = .ok (.invokestatic 87, 3) := by decide +kernel
theorem dL_isTold_148 : decode cL_isTold 148 = .ok (.ifCond .eq 7, 3) := by decide +kernel
theorem dL_isTold_151 : decode cL_isTold 151 = .ok (.iconst 0, 1) := by decide +kernel
theorem dL_isTold_152 : decode cL_isTold 152 = .ok (.goto 4, 3) := by decide +kernel
theorem dL_isTold_155 : decode cL_isTold 155 = .ok (.iconst 1, 1) := by decide +kernel
theorem dL_isTold_156 : decode cL_isTold 156 = .ok (.iadd, 1) := by decide +kernel
theorem dL_isTold_157 : decode cL_isTold 157 = .ok (.istore 5, 2) := by decide +kernel
