theorem dX1_init_0 : decode cX1_init 0 = .ok (.aload_n 0, 1) := by decide +kernel
theorem dX1_init_1 : decode cX1_init 1 = .ok (.invokespecial 1, 3) := by decide +kernel
theorem dX1_init_4 : decode cX1_init 4 = .ok (.aload_n 0, 1) := by decide +kernel
theorem dX1_init_5 : decode cX1_init 5 = .ok (.bipush 40, 2) := by decide +kernel
theorem dX1_init_7 : decode cX1_init 7 = .ok (.newarray .int, 2) := by decide +kernel
theorem dX1_init_9 : decode cX1_init 9 = .ok (.putfield 7, 3) := by decide +kernel
theorem dX1_init_12 : decode cX1_init 12 = .ok (.aload_n 0, 1) := by decide +kernel
theorem dX1_init_13 : decode cX1_init 13 = .ok (.bipush 120, 2) := by decide +kernel
theorem dX1_init_15 : decode cX1_init 15 = .ok (.newarray .int, 2) := by decide +kernel
theorem dX1_init_17 : decode cX1_init 17 = .ok (.putfield 13, 3) := by decide +kernel
theorem dX1_init_20 : decode cX1_init 20 = .ok (.aload_n 0, 1) := by decide +kernel
theorem dX1_init_21 : decode cX1_init 21 = .ok (.bipush 40, 2) := by decide +kernel
theorem dX1_init_23 : decode cX1_init 23 = .ok (.newarray .boolean, 2) := by decide +kernel
theorem dX1_init_25 : decode cX1_init 25 = .ok (.putfield 16, 3) := by decide +kernel
theorem dX1_init_28 : decode cX1_init 28 = .ok (.aload_n 0, 1) := by decide +kernel
theorem dX1_init_29 : decode cX1_init 29 = .ok (.bipush 40, 2) := by decide +kernel
theorem dX1_init_31 : decode cX1_init 31 = .ok (.newarray .boolean, 2) := by decide +kernel
theorem dX1_init_33 : decode cX1_init 33 = .ok (.putfield 20, 3) := by decide +kernel
theorem dX1_init_36 : decode cX1_init 36 = .ok (.aload_n 0, 1) := by decide +kernel
theorem dX1_init_37 : decode cX1_init 37 = .ok (.bipush 8, 2) := by decide +kernel
theorem dX1_init_39 : decode cX1_init 39 = .ok (.putfield 23, 3) := by decide +kernel
theorem dX1_init_42 : decode cX1_init 42 = .ok (.aload_n 0, 1) := by decide +kernel
theorem dX1_init_43 : decode cX1_init 43 = .ok (.bipush 10, 2) := by decide +kernel
theorem dX1_init_45 : decode cX1_init 45 = .ok (.putfield 27, 3) := by decide +kernel
theorem dX1_init_48 : decode cX1_init 48 = .ok (.aload_n 0, 1) := by decide +kernel
theorem dX1_init_49 : decode cX1_init 49 = .ok (.sipush 2000, 3) := by decide +kernel
theorem dX1_init_52 : decode cX1_init 52 = .ok (.newarray .int, 2) := by decide +kernel
theorem dX1_init_54 : decode cX1_init 54 = .ok (.putfield 30, 3) := by decide +kernel
theorem dX1_init_57 : decode cX1_init 57 = .ok (.iconst 0, 1) := by decide +kernel
theorem dX1_init_58 : decode cX1_init 58 = .ok (.istore_n 1, 1) := by decide +kernel
theorem dX1_init_59 : decode cX1_init 59 = .ok (.iload_n 1, 1) := by decide +kernel
theorem dX1_init_60 : decode cX1_init 60 = .ok (.bipush 40, 2) := by decide +kernel
theorem dX1_init_62 : decode cX1_init 62 = .ok (.if_icmp .ge 16, 3) := by decide +kernel
theorem dX1_init_65 : decode cX1_init 65 = .ok (.aload_n 0, 1) := by decide +kernel
theorem dX1_init_66 : decode cX1_init 66 = .ok (.getfield 7, 3) := by decide +kernel
theorem dX1_init_69 : decode cX1_init 69 = .ok (.iload_n 1, 1) := by decide +kernel
theorem dX1_init_70 : decode cX1_init 70 = .ok (.iconst (-1), 1) := by decide +kernel
theorem dX1_init_71 : decode cX1_init 71 = .ok (.iastore, 1) := by decide +kernel
theorem dX1_init_72 : decode cX1_init 72 = .ok (.iinc 1 1, 3) := by decide +kernel
theorem dX1_init_75 : decode cX1_init 75 = .ok (.goto (-16), 3) := by decide +kernel
theorem dX1_init_78 : decode cX1_init 78 = .ok (.return_, 1) := by decide +kernel
theorem dX1_thrown_0 : decode cX1_thrown 0 = .ok (.aload_n 0, 1) := by decide +kernel
theorem dX1_thrown_1 : decode cX1_thrown 1 = .ok (.getfield 33, 3) := by decide +kernel
theorem dX1_thrown_4 : decode cX1_thrown 4 = .ok (.ireturn, 1) := by decide +kernel
theorem dX1_can_0 : decode cX1_can 0 = .ok (.aload_n 0, 1) := by decide +kernel
theorem dX1_can_1 : decode cX1_can 1 = .ok (.iload_n 1, 1) := by decide +kernel
theorem dX1_can_2 : decode cX1_can 2 = .ok (.putfield 33, 3) := by decide +kernel
theorem dX1_can_5 : decode cX1_can 5 = .ok (.iload_n 1, 1) := by decide +kernel
theorem dX1_can_6 : decode cX1_can 6 = .ok (.ifCond .ne 7, 3) := by decide +kernel
theorem dX1_can_9 : decode cX1_can 9 = .ok (.iconst 1, 1) := by decide +kernel
theorem dX1_can_10 : decode cX1_can 10 = .ok (.goto 4, 3) := by decide +kernel
theorem dX1_can_13 : decode cX1_can 13 = .ok (.iconst 0, 1) := by decide +kernel
theorem dX1_can_14 : decode cX1_can 14 = .ok (.ireturn, 1) := by decide +kernel
theorem dX1_isIn_0 : decode cX1_isIn 0 = .ok (.iload_n 0, 1) := by decide +kernel
theorem dX1_isIn_1 : decode cX1_isIn 1 = .ok (.iload_n 1, 1) := by decide +kernel
theorem dX1_isIn_2 : decode cX1_isIn 2 = .ok (.if_icmp .lt 12, 3) := by decide +kernel
theorem dX1_isIn_5 : decode cX1_isIn 5 = .ok (.iload_n 0, 1) := by decide +kernel
theorem dX1_isIn_6 : decode cX1_isIn 6 = .ok (.iload_n 2, 1) := by decide +kernel
theorem dX1_isIn_7 : decode cX1_isIn 7 = .ok (.if_icmp .gt 7, 3) := by decide +kernel
theorem dX1_isIn_10 : decode cX1_isIn 10 = .ok (.iconst 1, 1) := by decide +kernel
theorem dX1_isIn_11 : decode cX1_isIn 11 = .ok (.goto 4, 3) := by decide +kernel
theorem dX1_isIn_14 : decode cX1_isIn 14 = .ok (.iconst 0, 1) := by decide +kernel
theorem dX1_isIn_15 : decode cX1_isIn 15 = .ok (.ireturn, 1) := by decide +kernel
theorem dX1_isKey_0 : decode cX1_isKey 0 = .ok (.iload_n 0, 1) := by decide +kernel
theorem dX1_isKey_1 : decode cX1_isKey 1 = .ok (.iconst 0, 1) := by decide +kernel
theorem dX1_isKey_2 : decode cX1_isKey 2 = .ok (.bipush 39, 2) := by decide +kernel
theorem dX1_isKey_4 : decode cX1_isKey 4 = .ok (.invokestatic 36, 3) := by decide +kernel
theorem dX1_isKey_7 : decode cX1_isKey 7 = .ok (.ireturn, 1) := by decide +kernel
theorem dX1_suits_0 : decode cX1_suits 0 = .ok (.aload_n 0, 1) := by decide +kernel
theorem dX1_suits_1 : decode cX1_suits 1 = .ok (.getfield 40, 3) := by decide +kernel
theorem dX1_suits_4 : decode cX1_suits 4 = .ok (.iconst 1, 1) := by decide +kernel
theorem dX1_suits_5 : decode cX1_suits 5 = .ok (.if_icmp .ne 15, 3) := by decide +kernel
theorem dX1_suits_8 : decode cX1_suits 8 = .ok (.iload_n 1, 1) := by decide +kernel
theorem dX1_suits_9 : decode cX1_suits 9 = .ok (.sipush 1000, 3) := by decide +kernel
theorem dX1_suits_12 : decode cX1_suits 12 = .ok (.irem, 1) := by decide +kernel
theorem dX1_suits_13 : decode cX1_suits 13 = .ok (.aload_n 0, 1) := by decide +kernel
theorem dX1_suits_14 : decode cX1_suits 14 = .ok (.getfield 43, 3) := by decide +kernel
theorem dX1_suits_17 : decode cX1_suits 17 = .ok (.if_icmp .gt 7, 3) := by decide +kernel
theorem dX1_suits_20 : decode cX1_suits 20 = .ok (.iconst 1, 1) := by decide +kernel
theorem dX1_suits_21 : decode cX1_suits 21 = .ok (.goto 4, 3) := by decide +kernel
theorem dX1_suits_24 : decode cX1_suits 24 = .ok (.iconst 0, 1) := by decide +kernel
theorem dX1_suits_25 : decode cX1_suits 25 = .ok (.ireturn, 1) := by decide +kernel
theorem dX1_digits_0 : decode cX1_digits 0 = .ok (.iload_n 0, 1) := by decide +kernel
theorem dX1_digits_1 : decode cX1_digits 1 = .ok (.bipush 10, 2) := by decide +kernel
theorem dX1_digits_3 : decode cX1_digits 3 = .ok (.if_icmp .ge 7, 3) := by decide +kernel
theorem dX1_digits_6 : decode cX1_digits 6 = .ok (.iconst 1, 1) := by decide +kernel
theorem dX1_digits_7 : decode cX1_digits 7 = .ok (.goto 14, 3) := by decide +kernel
theorem dX1_digits_10 : decode cX1_digits 10 = .ok (.iload_n 0, 1) := by decide +kernel
theorem dX1_digits_11 : decode cX1_digits 11 = .ok (.bipush 100, 2) := by decide +kernel
theorem dX1_digits_13 : decode cX1_digits 13 = .ok (.if_icmp .ge 7, 3) := by decide +kernel
theorem dX1_digits_16 : decode cX1_digits 16 = .ok (.iconst 2, 1) := by decide +kernel
theorem dX1_digits_17 : decode cX1_digits 17 = .ok (.goto 4, 3) := by decide +kernel
theorem dX1_digits_20 : decode cX1_digits 20 = .ok (.iconst 3, 1) := by decide +kernel
theorem dX1_digits_21 : decode cX1_digits 21 = .ok (.ireturn, 1) := by decide +kernel
theorem dX1_altered_0 : decode cX1_altered 0 = .ok (.iload_n 1, 1) := by decide +kernel
theorem dX1_altered_1 : decode cX1_altered 1 = .ok (.sipush 1000, 3) := by decide +kernel
theorem dX1_altered_4 : decode cX1_altered 4 = .ok (.idiv, 1) := by decide +kernel
theorem dX1_altered_5 : decode cX1_altered 5 = .ok (.istore_n 3, 1) := by decide +kernel
theorem dX1_altered_6 : decode cX1_altered 6 = .ok (.iload_n 1, 1) := by decide +kernel
theorem dX1_altered_7 : decode cX1_altered 7 = .ok (.sipush 1000, 3) := by decide +kernel
theorem dX1_altered_10 : decode cX1_altered 10 = .ok (.irem, 1) := by decide +kernel
theorem dX1_altered_11 : decode cX1_altered 11 = .ok (.istore 4, 2) := by decide +kernel
theorem dX1_altered_13 : decode cX1_altered 13 = .ok (.aload_n 0, 1) := by decide +kernel
theorem dX1_altered_14 : decode cX1_altered 14 = .ok (.getfield 40, 3) := by decide +kernel
theorem dX1_altered_17 : decode cX1_altered 17 = .ok (.ifCond .ne 29, 3) := by decide +kernel
theorem dX1_altered_20 : decode cX1_altered 20 = .ok (.iload_n 2, 1) := by decide +kernel
theorem dX1_altered_21 : decode cX1_altered 21 = .ok (.ifCond .ne 10, 3) := by decide +kernel
theorem dX1_altered_24 : decode cX1_altered 24 = .ok (.iload_n 3, 1) := by decide +kernel
theorem dX1_altered_25 : decode cX1_altered 25 = .ok (.bipush 100, 2) := by decide +kernel
theorem dX1_altered_27 : decode cX1_altered 27 = .ok (.idiv, 1) := by decide +kernel
theorem dX1_altered_28 : decode cX1_altered 28 = .ok (.goto 17, 3) := by decide +kernel
theorem dX1_altered_31 : decode cX1_altered 31 = .ok (.iload_n 2, 1) := by decide +kernel
theorem dX1_altered_32 : decode cX1_altered 32 = .ok (.iconst 1, 1) := by decide +kernel
theorem dX1_altered_33 : decode cX1_altered 33 = .ok (.if_icmp .ne 10, 3) := by decide +kernel
theorem dX1_altered_36 : decode cX1_altered 36 = .ok (.iload_n 3, 1) := by decide +kernel
theorem dX1_altered_37 : decode cX1_altered 37 = .ok (.bipush 100, 2) := by decide +kernel
theorem dX1_altered_39 : decode cX1_altered 39 = .ok (.irem, 1) := by decide +kernel
theorem dX1_altered_40 : decode cX1_altered 40 = .ok (.goto 5, 3) := by decide +kernel
theorem dX1_altered_43 : decode cX1_altered 43 = .ok (.iload 4, 2) := by decide +kernel
theorem dX1_altered_45 : decode cX1_altered 45 = .ok (.ireturn, 1) := by decide +kernel
theorem dX1_altered_46 : decode cX1_altered 46 = .ok (.aload_n 0, 1) := by decide +kernel
theorem dX1_altered_47 : decode cX1_altered 47 = .ok (.getfield 40, 3) := by decide +kernel
theorem dX1_altered_50 : decode cX1_altered 50 = .ok (.iconst 1, 1) := by decide +kernel
theorem dX1_altered_51 : decode cX1_altered 51 = .ok (.if_icmp .ne 23, 3) := by decide +kernel
theorem dX1_altered_54 : decode cX1_altered 54 = .ok (.iload_n 2, 1) := by decide +kernel
theorem dX1_altered_55 : decode cX1_altered 55 = .ok (.ifCond .ne 7, 3) := by decide +kernel
theorem dX1_altered_58 : decode cX1_altered 58 = .ok (.iload_n 3, 1) := by decide +kernel
theorem dX1_altered_59 : decode cX1_altered 59 = .ok (.goto 14, 3) := by decide +kernel
theorem dX1_altered_62 : decode cX1_altered 62 = .ok (.iload_n 2, 1) := by decide +kernel
theorem dX1_altered_63 : decode cX1_altered 63 = .ok (.iconst 1, 1) := by decide +kernel
theorem dX1_altered_64 : decode cX1_altered 64 = .ok (.if_icmp .ne 8, 3) := by decide +kernel
theorem dX1_altered_67 : decode cX1_altered 67 = .ok (.iload 4, 2) := by decide +kernel
theorem dX1_altered_69 : decode cX1_altered 69 = .ok (.goto 4, 3) := by decide +kernel
theorem dX1_altered_72 : decode cX1_altered 72 = .ok (.iconst 0, 1) := by decide +kernel
theorem dX1_altered_73 : decode cX1_altered 73 = .ok (.ireturn, 1) := by decide +kernel
theorem dX1_altered_74 : decode cX1_altered 74 = .ok (.iload_n 2, 1) := by decide +kernel
theorem dX1_altered_75 : decode cX1_altered 75 = .ok (.ifCond .ne 7, 3) := by decide +kernel
theorem dX1_altered_78 : decode cX1_altered 78 = .ok (.iload_n 3, 1) := by decide +kernel
theorem dX1_altered_79 : decode cX1_altered 79 = .ok (.goto 23, 3) := by decide +kernel
theorem dX1_altered_82 : decode cX1_altered 82 = .ok (.iload_n 2, 1) := by decide +kernel
theorem dX1_altered_83 : decode cX1_altered 83 = .ok (.iconst 1, 1) := by decide +kernel
theorem dX1_altered_84 : decode cX1_altered 84 = .ok (.if_icmp .ne 13, 3) := by decide +kernel
theorem dX1_altered_87 : decode cX1_altered 87 = .ok (.iload 4, 2) := by decide +kernel
theorem dX1_altered_89 : decode cX1_altered 89 = .ok (.aload_n 0, 1) := by decide +kernel
theorem dX1_altered_90 : decode cX1_altered 90 = .ok (.getfield 43, 3) := by decide +kernel
theorem dX1_altered_93 : decode cX1_altered 93 = .ok (.imul, 1) := by decide +kernel
theorem dX1_altered_94 : decode cX1_altered 94 = .ok (.goto 8, 3) := by decide +kernel
theorem dX1_altered_97 : decode cX1_altered 97 = .ok (.iload 4, 2) := by decide +kernel
theorem dX1_altered_99 : decode cX1_altered 99 = .ok (.invokestatic 46, 3) := by decide +kernel
theorem dX1_altered_102 : decode cX1_altered 102 = .ok (.ireturn, 1) := by decide +kernel
theorem dX1_brings_0 : decode cX1_brings 0 = .ok (.aload_n 0, 1) := by decide +kernel
theorem dX1_brings_1 : decode cX1_brings 1 = .ok (.getfield 16, 3) := by decide +kernel
theorem dX1_brings_4 : decode cX1_brings 4 = .ok (.iload_n 1, 1) := by decide +kernel
theorem dX1_brings_5 : decode cX1_brings 5 = .ok (.aload_n 0, 1) := by decide +kernel
theorem dX1_brings_6 : decode cX1_brings 6 = .ok (.getfield 7, 3) := by decide +kernel
theorem dX1_brings_9 : decode cX1_brings 9 = .ok (.iload_n 1, 1) := by decide +kernel
theorem dX1_brings_10 : decode cX1_brings 10 = .ok (.iaload, 1) := by decide +kernel
theorem dX1_brings_11 : decode cX1_brings 11 = .ok (.iconst (-1), 1) := by decide +kernel
theorem dX1_brings_12 : decode cX1_brings 12 = .ok (.if_icmp .eq 20, 3) := by decide +kernel
theorem dX1_brings_15 : decode cX1_brings 15 = .ok (.aload_n 0, 1) := by decide +kernel
theorem dX1_brings_16 : decode cX1_brings 16 = .ok (.aload_n 0, 1) := by decide +kernel
theorem dX1_brings_17 : decode cX1_brings 17 = .ok (.getfield 7, 3) := by decide +kernel
theorem dX1_brings_20 : decode cX1_brings 20 = .ok (.iload_n 1, 1) := by decide +kernel
theorem dX1_brings_21 : decode cX1_brings 21 = .ok (.iaload, 1) := by decide +kernel
theorem dX1_brings_22 : decode cX1_brings 22 = .ok (.invokevirtual 50, 3) := by decide +kernel
theorem dX1_brings_25 : decode cX1_brings 25 = .ok (.ifCond .eq 7, 3) := by decide +kernel
theorem dX1_brings_28 : decode cX1_brings 28 = .ok (.iconst 1, 1) := by decide +kernel
theorem dX1_brings_29 : decode cX1_brings 29 = .ok (.goto 4, 3) := by decide +kernel
theorem dX1_brings_32 : decode cX1_brings 32 = .ok (.iconst 0, 1) := by decide +kernel
theorem dX1_brings_33 : decode cX1_brings 33 = .ok (.bastore, 1) := by decide +kernel
theorem dX1_brings_34 : decode cX1_brings 34 = .ok (.aload_n 0, 1) := by decide +kernel
theorem dX1_brings_35 : decode cX1_brings 35 = .ok (.getfield 20, 3) := by decide +kernel
theorem dX1_brings_38 : decode cX1_brings 38 = .ok (.iload_n 1, 1) := by decide +kernel
theorem dX1_brings_39 : decode cX1_brings 39 = .ok (.aload_n 0, 1) := by decide +kernel
theorem dX1_brings_40 : decode cX1_brings 40 = .ok (.getfield 7, 3) := by decide +kernel
theorem dX1_brings_43 : decode cX1_brings 43 = .ok (.iload_n 1, 1) := by decide +kernel
theorem dX1_brings_44 : decode cX1_brings 44 = .ok (.iaload, 1) := by decide +kernel
theorem dX1_brings_45 : decode cX1_brings 45 = .ok (.iconst (-1), 1) := by decide +kernel
theorem dX1_brings_46 : decode cX1_brings 46 = .ok (.if_icmp .eq 16, 3) := by decide +kernel
theorem dX1_brings_49 : decode cX1_brings 49 = .ok (.aload_n 0, 1) := by decide +kernel
theorem dX1_brings_50 : decode cX1_brings 50 = .ok (.getfield 16, 3) := by decide +kernel
theorem dX1_brings_53 : decode cX1_brings 53 = .ok (.iload_n 1, 1) := by decide +kernel
theorem dX1_brings_54 : decode cX1_brings 54 = .ok (.baload, 1) := by decide +kernel
theorem dX1_brings_55 : decode cX1_brings 55 = .ok (.ifCond .ne 7, 3) := by decide +kernel
theorem dX1_brings_58 : decode cX1_brings 58 = .ok (.iconst 1, 1) := by decide +kernel
theorem dX1_brings_59 : decode cX1_brings 59 = .ok (.goto 4, 3) := by decide +kernel
theorem dX1_brings_62 : decode cX1_brings 62 = .ok (.iconst 0, 1) := by decide +kernel
theorem dX1_brings_63 : decode cX1_brings 63 = .ok (.bastore, 1) := by decide +kernel
theorem dX1_brings_64 : decode cX1_brings 64 = .ok (.iconst 0, 1) := by decide +kernel
theorem dX1_brings_65 : decode cX1_brings 65 = .ok (.istore_n 2, 1) := by decide +kernel
theorem dX1_brings_66 : decode cX1_brings 66 = .ok (.iload_n 2, 1) := by decide +kernel
theorem dX1_brings_67 : decode cX1_brings 67 = .ok (.iconst 3, 1) := by decide +kernel
theorem dX1_brings_68 : decode cX1_brings 68 = .ok (.if_icmp .ge 39, 3) := by decide +kernel
theorem dX1_brings_71 : decode cX1_brings 71 = .ok (.aload_n 0, 1) := by decide +kernel
theorem dX1_brings_72 : decode cX1_brings 72 = .ok (.getfield 16, 3) := by decide +kernel
theorem dX1_brings_75 : decode cX1_brings 75 = .ok (.iload_n 1, 1) := by decide +kernel
theorem dX1_brings_76 : decode cX1_brings 76 = .ok (.baload, 1) := by decide +kernel
theorem dX1_brings_77 : decode cX1_brings 77 = .ok (.ifCond .eq 30, 3) := by decide +kernel
theorem dX1_brings_80 : decode cX1_brings 80 = .ok (.aload_n 0, 1) := by decide +kernel
theorem dX1_brings_81 : decode cX1_brings 81 = .ok (.getfield 13, 3) := by decide +kernel
theorem dX1_brings_84 : decode cX1_brings 84 = .ok (.iconst 3, 1) := by decide +kernel
theorem dX1_brings_85 : decode cX1_brings 85 = .ok (.iload_n 1, 1) := by decide +kernel
theorem dX1_brings_86 : decode cX1_brings 86 = .ok (.imul, 1) := by decide +kernel
theorem dX1_brings_87 : decode cX1_brings 87 = .ok (.iload_n 2, 1) := by decide +kernel
theorem dX1_brings_88 : decode cX1_brings 88 = .ok (.iadd, 1) := by decide +kernel
theorem dX1_brings_89 : decode cX1_brings 89 = .ok (.aload_n 0, 1) := by decide +kernel
theorem dX1_brings_90 : decode cX1_brings 90 = .ok (.aload_n 0, 1) := by decide +kernel
theorem dX1_brings_91 : decode cX1_brings 91 = .ok (.getfield 7, 3) := by decide +kernel
theorem dX1_brings_94 : decode cX1_brings 94 = .ok (.iload_n 1, 1) := by decide +kernel
theorem dX1_brings_95 : decode cX1_brings 95 = .ok (.iaload, 1) := by decide +kernel
theorem dX1_brings_96 : decode cX1_brings 96 = .ok (.iload_n 2, 1) := by decide +kernel
theorem dX1_brings_97 : decode cX1_brings 97 = .ok (.invokevirtual 54, 3) := by decide +kernel
theorem dX1_brings_100 : decode cX1_brings 100 = .ok (.iastore, 1) := by decide +kernel
theorem dX1_brings_101 : decode cX1_brings 101 = .ok (.iinc 2 1, 3) := by decide +kernel
theorem dX1_brings_104 : decode cX1_brings 104 = .ok (.goto (-38), 3) := by decide +kernel
theorem dX1_brings_107 : decode cX1_brings 107 = .ok (.return_, 1) := by decide +kernel
theorem dX1_isSeen_0 : decode cX1_isSeen 0 = .ok (.aload_n 0, 1) := by decide +kernel
theorem dX1_isSeen_1 : decode cX1_isSeen 1 = .ok (.getfield 7, 3) := by decide +kernel
theorem dX1_isSeen_4 : decode cX1_isSeen 4 = .ok (.iload_n 1, 1) := by decide +kernel
theorem dX1_isSeen_5 : decode cX1_isSeen 5 = .ok (.iaload, 1) := by decide +kernel
theorem dX1_isSeen_6 : decode cX1_isSeen 6 = .ok (.iconst (-1), 1) := by decide +kernel
theorem dX1_isSeen_7 : decode cX1_isSeen 7 = .ok (.if_icmp .eq 24, 3) := by decide +kernel
theorem dX1_isSeen_10 : decode cX1_isSeen 10 = .ok (.aload_n 0, 1) := by decide +kernel
theorem dX1_isSeen_11 : decode cX1_isSeen 11 = .ok (.getfield 58, 3) := by decide +kernel
theorem dX1_isSeen_14 : decode cX1_isSeen 14 = .ok (.iconst 2, 1) := by decide +kernel
theorem dX1_isSeen_15 : decode cX1_isSeen 15 = .ok (.if_icmp .ne 12, 3) := by decide +kernel
theorem dX1_isSeen_18 : decode cX1_isSeen 18 = .ok (.aload_n 0, 1) := by decide +kernel
theorem dX1_isSeen_19 : decode cX1_isSeen 19 = .ok (.getfield 16, 3) := by decide +kernel
theorem dX1_isSeen_22 : decode cX1_isSeen 22 = .ok (.iload_n 1, 1) := by decide +kernel
theorem dX1_isSeen_23 : decode cX1_isSeen 23 = .ok (.baload, 1) := by decide +kernel
theorem dX1_isSeen_24 : decode cX1_isSeen 24 = .ok (.ifCond .eq 7, 3) := by decide +kernel
theorem dX1_isSeen_27 : decode cX1_isSeen 27 = .ok (.iconst 1, 1) := by decide +kernel
theorem dX1_isSeen_28 : decode cX1_isSeen 28 = .ok (.goto 4, 3) := by decide +kernel
theorem dX1_isSeen_31 : decode cX1_isSeen 31 = .ok (.iconst 0, 1) := by decide +kernel
theorem dX1_isSeen_32 : decode cX1_isSeen 32 = .ok (.ireturn, 1) := by decide +kernel
theorem dX1_wrote_0 : decode cX1_wrote 0 = .ok (.aload_n 0, 1) := by decide +kernel
theorem dX1_wrote_1 : decode cX1_wrote 1 = .ok (.getfield 58, 3) := by decide +kernel
theorem dX1_wrote_4 : decode cX1_wrote 4 = .ok (.iconst 1, 1) := by decide +kernel
theorem dX1_wrote_5 : decode cX1_wrote 5 = .ok (.if_icmp .ne 26, 3) := by decide +kernel
theorem dX1_wrote_8 : decode cX1_wrote 8 = .ok (.aload_n 0, 1) := by decide +kernel
theorem dX1_wrote_9 : decode cX1_wrote 9 = .ok (.getfield 30, 3) := by decide +kernel
theorem dX1_wrote_12 : decode cX1_wrote 12 = .ok (.aload_n 0, 1) := by decide +kernel
theorem dX1_wrote_13 : decode cX1_wrote 13 = .ok (.getfield 61, 3) := by decide +kernel
theorem dX1_wrote_16 : decode cX1_wrote 16 = .ok (.iload_n 1, 1) := by decide +kernel
theorem dX1_wrote_17 : decode cX1_wrote 17 = .ok (.iastore, 1) := by decide +kernel
theorem dX1_wrote_18 : decode cX1_wrote 18 = .ok (.aload_n 0, 1) := by decide +kernel
theorem dX1_wrote_19 : decode cX1_wrote 19 = .ok (.dup, 1) := by decide +kernel
theorem dX1_wrote_20 : decode cX1_wrote 20 = .ok (.getfield 61, 3) := by decide +kernel
theorem dX1_wrote_23 : decode cX1_wrote 23 = .ok (.iconst 1, 1) := by decide +kernel
theorem dX1_wrote_24 : decode cX1_wrote 24 = .ok (.iadd, 1) := by decide +kernel
theorem dX1_wrote_25 : decode cX1_wrote 25 = .ok (.putfield 61, 3) := by decide +kernel
theorem dX1_wrote_28 : decode cX1_wrote 28 = .ok (.goto 16, 3) := by decide +kernel
theorem dX1_wrote_31 : decode cX1_wrote 31 = .ok (.aload_n 0, 1) := by decide +kernel
theorem dX1_wrote_32 : decode cX1_wrote 32 = .ok (.getfield 58, 3) := by decide +kernel
theorem dX1_wrote_35 : decode cX1_wrote 35 = .ok (.iconst 2, 1) := by decide +kernel
theorem dX1_wrote_36 : decode cX1_wrote 36 = .ok (.if_icmp .ne 8, 3) := by decide +kernel
theorem dX1_wrote_39 : decode cX1_wrote 39 = .ok (.aload_n 0, 1) := by decide +kernel
theorem dX1_wrote_40 : decode cX1_wrote 40 = .ok (.iload_n 1, 1) := by decide +kernel
theorem dX1_wrote_41 : decode cX1_wrote 41 = .ok (.invokevirtual 64, 3) := by decide +kernel
theorem dX1_wrote_44 : decode cX1_wrote 44 = .ok (.return_, 1) := by decide +kernel
theorem dX1_faultOf_0 : decode cX1_faultOf 0 = .ok (.iload_n 2, 1) := by decide +kernel
theorem dX1_faultOf_1 : decode cX1_faultOf 1 = .ok (.iconst 0, 1) := by decide +kernel
theorem dX1_faultOf_2 : decode cX1_faultOf 2 = .ok (.sipush 999, 3) := by decide +kernel
theorem dX1_faultOf_5 : decode cX1_faultOf 5 = .ok (.invokestatic 36, 3) := by decide +kernel
theorem dX1_faultOf_8 : decode cX1_faultOf 8 = .ok (.ifCond .eq 18, 3) := by decide +kernel
theorem dX1_faultOf_11 : decode cX1_faultOf 11 = .ok (.iload_n 3, 1) := by decide +kernel
theorem dX1_faultOf_12 : decode cX1_faultOf 12 = .ok (.iconst 0, 1) := by decide +kernel
theorem dX1_faultOf_13 : decode cX1_faultOf 13 = .ok (.sipush 999, 3) := by decide +kernel
theorem dX1_faultOf_16 : decode cX1_faultOf 16 = .ok (.invokestatic 36, 3) := by decide +kernel
theorem dX1_faultOf_19 : decode cX1_faultOf 19 = .ok (.ifCond .eq 7, 3) := by decide +kernel
theorem dX1_faultOf_22 : decode cX1_faultOf 22 = .ok (.iconst 1, 1) := by decide +kernel
theorem dX1_faultOf_23 : decode cX1_faultOf 23 = .ok (.goto 4, 3) := by decide +kernel
theorem dX1_faultOf_26 : decode cX1_faultOf 26 = .ok (.iconst 0, 1) := by decide +kernel
theorem dX1_faultOf_27 : decode cX1_faultOf 27 = .ok (.istore 4, 2) := by decide +kernel
theorem dX1_faultOf_29 : decode cX1_faultOf 29 = .ok (.iload_n 1, 1) := by decide +kernel
theorem dX1_faultOf_30 : decode cX1_faultOf 30 = .ok (.invokestatic 68, 3) := by decide +kernel
theorem dX1_faultOf_33 : decode cX1_faultOf 33 = .ok (.ifCond .ne 7, 3) := by decide +kernel
theorem dX1_faultOf_36 : decode cX1_faultOf 36 = .ok (.iconst 1, 1) := by decide +kernel
theorem dX1_faultOf_37 : decode cX1_faultOf 37 = .ok (.goto 35, 3) := by decide +kernel
theorem dX1_faultOf_40 : decode cX1_faultOf 40 = .ok (.iload 4, 2) := by decide +kernel
theorem dX1_faultOf_42 : decode cX1_faultOf 42 = .ok (.ifCond .eq 25, 3) := by decide +kernel
theorem dX1_faultOf_45 : decode cX1_faultOf 45 = .ok (.aload_n 0, 1) := by decide +kernel
theorem dX1_faultOf_46 : decode cX1_faultOf 46 = .ok (.getfield 58, 3) := by decide +kernel
theorem dX1_faultOf_49 : decode cX1_faultOf 49 = .ok (.iconst 2, 1) := by decide +kernel
theorem dX1_faultOf_50 : decode cX1_faultOf 50 = .ok (.if_icmp .ne 21, 3) := by decide +kernel
theorem dX1_faultOf_53 : decode cX1_faultOf 53 = .ok (.aload_n 0, 1) := by decide +kernel
theorem dX1_faultOf_54 : decode cX1_faultOf 54 = .ok (.sipush 1000, 3) := by decide +kernel
theorem dX1_faultOf_57 : decode cX1_faultOf 57 = .ok (.iload_n 2, 1) := by decide +kernel
theorem dX1_faultOf_58 : decode cX1_faultOf 58 = .ok (.imul, 1) := by decide +kernel
theorem dX1_faultOf_59 : decode cX1_faultOf 59 = .ok (.iload_n 3, 1) := by decide +kernel
theorem dX1_faultOf_60 : decode cX1_faultOf 60 = .ok (.iadd, 1) := by decide +kernel
theorem dX1_faultOf_61 : decode cX1_faultOf 61 = .ok (.invokevirtual 50, 3) := by decide +kernel
theorem dX1_faultOf_64 : decode cX1_faultOf 64 = .ok (.ifCond .ne 7, 3) := by decide +kernel
theorem dX1_faultOf_67 : decode cX1_faultOf 67 = .ok (.iconst 2, 1) := by decide +kernel
theorem dX1_faultOf_68 : decode cX1_faultOf 68 = .ok (.goto 4, 3) := by decide +kernel
theorem dX1_faultOf_71 : decode cX1_faultOf 71 = .ok (.iconst 0, 1) := by decide +kernel
theorem dX1_faultOf_72 : decode cX1_faultOf 72 = .ok (.ireturn, 1) := by decide +kernel
theorem dX1_writes_0 : decode cX1_writes 0 = .ok (.aload_n 0, 1) := by decide +kernel
theorem dX1_writes_1 : decode cX1_writes 1 = .ok (.getfield 7, 3) := by decide +kernel
theorem dX1_writes_4 : decode cX1_writes 4 = .ok (.iload_n 1, 1) := by decide +kernel
theorem dX1_writes_5 : decode cX1_writes 5 = .ok (.iload_n 2, 1) := by decide +kernel
theorem dX1_writes_6 : decode cX1_writes 6 = .ok (.iastore, 1) := by decide +kernel
theorem dX1_writes_7 : decode cX1_writes 7 = .ok (.aload_n 0, 1) := by decide +kernel
theorem dX1_writes_8 : decode cX1_writes 8 = .ok (.iload_n 1, 1) := by decide +kernel
theorem dX1_writes_9 : decode cX1_writes 9 = .ok (.invokevirtual 71, 3) := by decide +kernel
theorem dX1_writes_12 : decode cX1_writes 12 = .ok (.return_, 1) := by decide +kernel
theorem dX1_insert_0 : decode cX1_insert 0 = .ok (.aload_n 0, 1) := by decide +kernel
theorem dX1_insert_1 : decode cX1_insert 1 = .ok (.iload_n 1, 1) := by decide +kernel
theorem dX1_insert_2 : decode cX1_insert 2 = .ok (.iload_n 2, 1) := by decide +kernel
theorem dX1_insert_3 : decode cX1_insert 3 = .ok (.iload_n 3, 1) := by decide +kernel
theorem dX1_insert_4 : decode cX1_insert 4 = .ok (.invokevirtual 74, 3) := by decide +kernel
theorem dX1_insert_7 : decode cX1_insert 7 = .ok (.istore 4, 2) := by decide +kernel
theorem dX1_insert_9 : decode cX1_insert 9 = .ok (.aload_n 0, 1) := by decide +kernel
theorem dX1_insert_10 : decode cX1_insert 10 = .ok (.iload 4, 2) := by decide +kernel
theorem dX1_insert_12 : decode cX1_insert 12 = .ok (.ifCond .le 8, 3) := by decide +kernel
theorem dX1_insert_15 : decode cX1_insert 15 = .ok (.iload 4, 2) := by decide +kernel
theorem dX1_insert_17 : decode cX1_insert 17 = .ok (.goto 16, 3) := by decide +kernel
theorem dX1_insert_20 : decode cX1_insert 20 = .ok (.aload_n 0, 1) := by decide +kernel
theorem dX1_insert_21 : decode cX1_insert 21 = .ok (.iload_n 1, 1) := by decide +kernel
theorem dX1_insert_22 : decode cX1_insert 22 = .ok (.invokevirtual 78, 3) := by decide +kernel
theorem dX1_insert_25 : decode cX1_insert 25 = .ok (.ifCond .eq 7, 3) := by decide +kernel
theorem dX1_insert_28 : decode cX1_insert 28 = .ok (.iconst 3, 1) := by decide +kernel
theorem dX1_insert_29 : decode cX1_insert 29 = .ok (.goto 4, 3) := by decide +kernel
theorem dX1_insert_32 : decode cX1_insert 32 = .ok (.iconst 0, 1) := by decide +kernel
theorem dX1_insert_33 : decode cX1_insert 33 = .ok (.invokevirtual 81, 3) := by decide +kernel
theorem dX1_insert_36 : decode cX1_insert 36 = .ok (.ifCond .eq 15, 3) := by decide +kernel
theorem dX1_insert_39 : decode cX1_insert 39 = .ok (.aload_n 0, 1) := by decide +kernel
theorem dX1_insert_40 : decode cX1_insert 40 = .ok (.iload_n 1, 1) := by decide +kernel
theorem dX1_insert_41 : decode cX1_insert 41 = .ok (.sipush 1000, 3) := by decide +kernel
theorem dX1_insert_44 : decode cX1_insert 44 = .ok (.iload_n 2, 1) := by decide +kernel
theorem dX1_insert_45 : decode cX1_insert 45 = .ok (.imul, 1) := by decide +kernel
theorem dX1_insert_46 : decode cX1_insert 46 = .ok (.iload_n 3, 1) := by decide +kernel
theorem dX1_insert_47 : decode cX1_insert 47 = .ok (.iadd, 1) := by decide +kernel
theorem dX1_insert_48 : decode cX1_insert 48 = .ok (.invokevirtual 84, 3) := by decide +kernel
theorem dX1_insert_51 : decode cX1_insert 51 = .ok (.return_, 1) := by decide +kernel
theorem dX1_update_0 : decode cX1_update 0 = .ok (.aload_n 0, 1) := by decide +kernel
theorem dX1_update_1 : decode cX1_update 1 = .ok (.iload_n 1, 1) := by decide +kernel
theorem dX1_update_2 : decode cX1_update 2 = .ok (.iload_n 2, 1) := by decide +kernel
theorem dX1_update_3 : decode cX1_update 3 = .ok (.iload_n 3, 1) := by decide +kernel
theorem dX1_update_4 : decode cX1_update 4 = .ok (.invokevirtual 74, 3) := by decide +kernel
theorem dX1_update_7 : decode cX1_update 7 = .ok (.istore 4, 2) := by decide +kernel
theorem dX1_update_9 : decode cX1_update 9 = .ok (.aload_n 0, 1) := by decide +kernel
theorem dX1_update_10 : decode cX1_update 10 = .ok (.iload 4, 2) := by decide +kernel
theorem dX1_update_12 : decode cX1_update 12 = .ok (.ifCond .le 8, 3) := by decide +kernel
theorem dX1_update_15 : decode cX1_update 15 = .ok (.iload 4, 2) := by decide +kernel
theorem dX1_update_17 : decode cX1_update 17 = .ok (.goto 16, 3) := by decide +kernel
theorem dX1_update_20 : decode cX1_update 20 = .ok (.aload_n 0, 1) := by decide +kernel
theorem dX1_update_21 : decode cX1_update 21 = .ok (.iload_n 1, 1) := by decide +kernel
theorem dX1_update_22 : decode cX1_update 22 = .ok (.invokevirtual 78, 3) := by decide +kernel
theorem dX1_update_25 : decode cX1_update 25 = .ok (.ifCond .eq 7, 3) := by decide +kernel
theorem dX1_update_28 : decode cX1_update 28 = .ok (.iconst 0, 1) := by decide +kernel
theorem dX1_update_29 : decode cX1_update 29 = .ok (.goto 4, 3) := by decide +kernel
theorem dX1_update_32 : decode cX1_update 32 = .ok (.iconst 3, 1) := by decide +kernel
theorem dX1_update_33 : decode cX1_update 33 = .ok (.invokevirtual 81, 3) := by decide +kernel
theorem dX1_update_36 : decode cX1_update 36 = .ok (.ifCond .eq 15, 3) := by decide +kernel
theorem dX1_update_39 : decode cX1_update 39 = .ok (.aload_n 0, 1) := by decide +kernel
theorem dX1_update_40 : decode cX1_update 40 = .ok (.iload_n 1, 1) := by decide +kernel
theorem dX1_update_41 : decode cX1_update 41 = .ok (.sipush 1000, 3) := by decide +kernel
theorem dX1_update_44 : decode cX1_update 44 = .ok (.iload_n 2, 1) := by decide +kernel
theorem dX1_update_45 : decode cX1_update 45 = .ok (.imul, 1) := by decide +kernel
theorem dX1_update_46 : decode cX1_update 46 = .ok (.iload_n 3, 1) := by decide +kernel
theorem dX1_update_47 : decode cX1_update 47 = .ok (.iadd, 1) := by decide +kernel
theorem dX1_update_48 : decode cX1_update 48 = .ok (.invokevirtual 84, 3) := by decide +kernel
theorem dX1_update_51 : decode cX1_update 51 = .ok (.return_, 1) := by decide +kernel
theorem dX1_delete_0 : decode cX1_delete 0 = .ok (.aload_n 0, 1) := by decide +kernel
theorem dX1_delete_1 : decode cX1_delete 1 = .ok (.iload_n 1, 1) := by decide +kernel
theorem dX1_delete_2 : decode cX1_delete 2 = .ok (.invokestatic 68, 3) := by decide +kernel
theorem dX1_delete_5 : decode cX1_delete 5 = .ok (.ifCond .ne 7, 3) := by decide +kernel
theorem dX1_delete_8 : decode cX1_delete 8 = .ok (.iconst 1, 1) := by decide +kernel
theorem dX1_delete_9 : decode cX1_delete 9 = .ok (.goto 16, 3) := by decide +kernel
theorem dX1_delete_12 : decode cX1_delete 12 = .ok (.aload_n 0, 1) := by decide +kernel
theorem dX1_delete_13 : decode cX1_delete 13 = .ok (.iload_n 1, 1) := by decide +kernel
theorem dX1_delete_14 : decode cX1_delete 14 = .ok (.invokevirtual 78, 3) := by decide +kernel
theorem dX1_delete_17 : decode cX1_delete 17 = .ok (.ifCond .eq 7, 3) := by decide +kernel
theorem dX1_delete_20 : decode cX1_delete 20 = .ok (.iconst 0, 1) := by decide +kernel
theorem dX1_delete_21 : decode cX1_delete 21 = .ok (.goto 4, 3) := by decide +kernel
theorem dX1_delete_24 : decode cX1_delete 24 = .ok (.iconst 2, 1) := by decide +kernel
theorem dX1_delete_25 : decode cX1_delete 25 = .ok (.invokevirtual 81, 3) := by decide +kernel
theorem dX1_delete_28 : decode cX1_delete 28 = .ok (.ifCond .ne 5, 3) := by decide +kernel
theorem dX1_delete_31 : decode cX1_delete 31 = .ok (.iconst 0, 1) := by decide +kernel
theorem dX1_delete_32 : decode cX1_delete 32 = .ok (.ireturn, 1) := by decide +kernel
theorem dX1_delete_33 : decode cX1_delete 33 = .ok (.aload_n 0, 1) := by decide +kernel
theorem dX1_delete_34 : decode cX1_delete 34 = .ok (.getfield 7, 3) := by decide +kernel
theorem dX1_delete_37 : decode cX1_delete 37 = .ok (.iload_n 1, 1) := by decide +kernel
theorem dX1_delete_38 : decode cX1_delete 38 = .ok (.iaload, 1) := by decide +kernel
theorem dX1_delete_39 : decode cX1_delete 39 = .ok (.istore_n 2, 1) := by decide +kernel
theorem dX1_delete_40 : decode cX1_delete 40 = .ok (.aload_n 0, 1) := by decide +kernel
theorem dX1_delete_41 : decode cX1_delete 41 = .ok (.iload_n 1, 1) := by decide +kernel
theorem dX1_delete_42 : decode cX1_delete 42 = .ok (.iconst (-1), 1) := by decide +kernel
theorem dX1_delete_43 : decode cX1_delete 43 = .ok (.invokevirtual 84, 3) := by decide +kernel
theorem dX1_delete_46 : decode cX1_delete 46 = .ok (.iload_n 2, 1) := by decide +kernel
theorem dX1_delete_47 : decode cX1_delete 47 = .ok (.ireturn, 1) := by decide +kernel
theorem dX1_rekey_0 : decode cX1_rekey 0 = .ok (.iload_n 1, 1) := by decide +kernel
theorem dX1_rekey_1 : decode cX1_rekey 1 = .ok (.invokestatic 68, 3) := by decide +kernel
theorem dX1_rekey_4 : decode cX1_rekey 4 = .ok (.ifCond .eq 14, 3) := by decide +kernel
theorem dX1_rekey_7 : decode cX1_rekey 7 = .ok (.iload_n 2, 1) := by decide +kernel
theorem dX1_rekey_8 : decode cX1_rekey 8 = .ok (.invokestatic 68, 3) := by decide +kernel
theorem dX1_rekey_11 : decode cX1_rekey 11 = .ok (.ifCond .eq 7, 3) := by decide +kernel
theorem dX1_rekey_14 : decode cX1_rekey 14 = .ok (.iconst 1, 1) := by decide +kernel
theorem dX1_rekey_15 : decode cX1_rekey 15 = .ok (.goto 4, 3) := by decide +kernel
theorem dX1_rekey_18 : decode cX1_rekey 18 = .ok (.iconst 0, 1) := by decide +kernel
theorem dX1_rekey_19 : decode cX1_rekey 19 = .ok (.istore_n 3, 1) := by decide +kernel
theorem dX1_rekey_20 : decode cX1_rekey 20 = .ok (.aload_n 0, 1) := by decide +kernel
theorem dX1_rekey_21 : decode cX1_rekey 21 = .ok (.iload_n 3, 1) := by decide +kernel
theorem dX1_rekey_22 : decode cX1_rekey 22 = .ok (.ifCond .ne 7, 3) := by decide +kernel
theorem dX1_rekey_25 : decode cX1_rekey 25 = .ok (.iconst 1, 1) := by decide +kernel
theorem dX1_rekey_26 : decode cX1_rekey 26 = .ok (.goto 37, 3) := by decide +kernel
theorem dX1_rekey_29 : decode cX1_rekey 29 = .ok (.iload_n 1, 1) := by decide +kernel
theorem dX1_rekey_30 : decode cX1_rekey 30 = .ok (.iload_n 2, 1) := by decide +kernel
theorem dX1_rekey_31 : decode cX1_rekey 31 = .ok (.if_icmp .ne 7, 3) := by decide +kernel
theorem dX1_rekey_34 : decode cX1_rekey 34 = .ok (.iconst 2, 1) := by decide +kernel
theorem dX1_rekey_35 : decode cX1_rekey 35 = .ok (.goto 28, 3) := by decide +kernel
theorem dX1_rekey_38 : decode cX1_rekey 38 = .ok (.aload_n 0, 1) := by decide +kernel
theorem dX1_rekey_39 : decode cX1_rekey 39 = .ok (.iload_n 1, 1) := by decide +kernel
theorem dX1_rekey_40 : decode cX1_rekey 40 = .ok (.invokevirtual 78, 3) := by decide +kernel
theorem dX1_rekey_43 : decode cX1_rekey 43 = .ok (.ifCond .ne 7, 3) := by decide +kernel
theorem dX1_rekey_46 : decode cX1_rekey 46 = .ok (.iconst 3, 1) := by decide +kernel
theorem dX1_rekey_47 : decode cX1_rekey 47 = .ok (.goto 16, 3) := by decide +kernel
theorem dX1_rekey_50 : decode cX1_rekey 50 = .ok (.aload_n 0, 1) := by decide +kernel
theorem dX1_rekey_51 : decode cX1_rekey 51 = .ok (.iload_n 2, 1) := by decide +kernel
theorem dX1_rekey_52 : decode cX1_rekey 52 = .ok (.invokevirtual 78, 3) := by decide +kernel
theorem dX1_rekey_55 : decode cX1_rekey 55 = .ok (.ifCond .eq 7, 3) := by decide +kernel
theorem dX1_rekey_58 : decode cX1_rekey 58 = .ok (.iconst 4, 1) := by decide +kernel
theorem dX1_rekey_59 : decode cX1_rekey 59 = .ok (.goto 4, 3) := by decide +kernel
theorem dX1_rekey_62 : decode cX1_rekey 62 = .ok (.iconst 0, 1) := by decide +kernel
theorem dX1_rekey_63 : decode cX1_rekey 63 = .ok (.invokevirtual 81, 3) := by decide +kernel
theorem dX1_rekey_66 : decode cX1_rekey 66 = .ok (.ifCond .eq 50, 3) := by decide +kernel
theorem dX1_rekey_69 : decode cX1_rekey 69 = .ok (.aload_n 0, 1) := by decide +kernel
theorem dX1_rekey_70 : decode cX1_rekey 70 = .ok (.getfield 7, 3) := by decide +kernel
theorem dX1_rekey_73 : decode cX1_rekey 73 = .ok (.iload_n 2, 1) := by decide +kernel
theorem dX1_rekey_74 : decode cX1_rekey 74 = .ok (.aload_n 0, 1) := by decide +kernel
theorem dX1_rekey_75 : decode cX1_rekey 75 = .ok (.getfield 7, 3) := by decide +kernel
theorem dX1_rekey_78 : decode cX1_rekey 78 = .ok (.iload_n 1, 1) := by decide +kernel
theorem dX1_rekey_79 : decode cX1_rekey 79 = .ok (.iaload, 1) := by decide +kernel
theorem dX1_rekey_80 : decode cX1_rekey 80 = .ok (.iastore, 1) := by decide +kernel
theorem dX1_rekey_81 : decode cX1_rekey 81 = .ok (.aload_n 0, 1) := by decide +kernel
theorem dX1_rekey_82 : decode cX1_rekey 82 = .ok (.getfield 7, 3) := by decide +kernel
theorem dX1_rekey_85 : decode cX1_rekey 85 = .ok (.iload_n 1, 1) := by decide +kernel
theorem dX1_rekey_86 : decode cX1_rekey 86 = .ok (.iconst (-1), 1) := by decide +kernel
theorem dX1_rekey_87 : decode cX1_rekey 87 = .ok (.iastore, 1) := by decide +kernel
theorem dX1_rekey_88 : decode cX1_rekey 88 = .ok (.aload_n 0, 1) := by decide +kernel
theorem dX1_rekey_89 : decode cX1_rekey 89 = .ok (.iload_n 1, 1) := by decide +kernel
theorem dX1_rekey_90 : decode cX1_rekey 90 = .ok (.iload_n 2, 1) := by decide +kernel
theorem dX1_rekey_91 : decode cX1_rekey 91 = .ok (.if_icmp .ge 7, 3) := by decide +kernel
theorem dX1_rekey_94 : decode cX1_rekey 94 = .ok (.iload_n 1, 1) := by decide +kernel
theorem dX1_rekey_95 : decode cX1_rekey 95 = .ok (.goto 4, 3) := by decide +kernel
theorem dX1_rekey_98 : decode cX1_rekey 98 = .ok (.iload_n 2, 1) := by decide +kernel
theorem dX1_rekey_99 : decode cX1_rekey 99 = .ok (.invokevirtual 71, 3) := by decide +kernel
theorem dX1_rekey_102 : decode cX1_rekey 102 = .ok (.aload_n 0, 1) := by decide +kernel
theorem dX1_rekey_103 : decode cX1_rekey 103 = .ok (.iload_n 1, 1) := by decide +kernel
theorem dX1_rekey_104 : decode cX1_rekey 104 = .ok (.iload_n 2, 1) := by decide +kernel
theorem dX1_rekey_105 : decode cX1_rekey 105 = .ok (.if_icmp .ge 7, 3) := by decide +kernel
theorem dX1_rekey_108 : decode cX1_rekey 108 = .ok (.iload_n 2, 1) := by decide +kernel
theorem dX1_rekey_109 : decode cX1_rekey 109 = .ok (.goto 4, 3) := by decide +kernel
theorem dX1_rekey_112 : decode cX1_rekey 112 = .ok (.iload_n 1, 1) := by decide +kernel
theorem dX1_rekey_113 : decode cX1_rekey 113 = .ok (.invokevirtual 71, 3) := by decide +kernel
theorem dX1_rekey_116 : decode cX1_rekey 116 = .ok (.return_, 1) := by decide +kernel
theorem dX1_clears_0 : decode cX1_clears 0 = .ok (.iconst 0, 1) := by decide +kernel
theorem dX1_clears_1 : decode cX1_clears 1 = .ok (.istore_n 1, 1) := by decide +kernel
theorem dX1_clears_2 : decode cX1_clears 2 = .ok (.iload_n 1, 1) := by decide +kernel
theorem dX1_clears_3 : decode cX1_clears 3 = .ok (.bipush 40, 2) := by decide +kernel
theorem dX1_clears_5 : decode cX1_clears 5 = .ok (.if_icmp .ge 23, 3) := by decide +kernel
theorem dX1_clears_8 : decode cX1_clears 8 = .ok (.aload_n 0, 1) := by decide +kernel
theorem dX1_clears_9 : decode cX1_clears 9 = .ok (.getfield 16, 3) := by decide +kernel
theorem dX1_clears_12 : decode cX1_clears 12 = .ok (.iload_n 1, 1) := by decide +kernel
theorem dX1_clears_13 : decode cX1_clears 13 = .ok (.iconst 0, 1) := by decide +kernel
theorem dX1_clears_14 : decode cX1_clears 14 = .ok (.bastore, 1) := by decide +kernel
theorem dX1_clears_15 : decode cX1_clears 15 = .ok (.aload_n 0, 1) := by decide +kernel
theorem dX1_clears_16 : decode cX1_clears 16 = .ok (.getfield 20, 3) := by decide +kernel
theorem dX1_clears_19 : decode cX1_clears 19 = .ok (.iload_n 1, 1) := by decide +kernel
theorem dX1_clears_20 : decode cX1_clears 20 = .ok (.iconst 0, 1) := by decide +kernel
theorem dX1_clears_21 : decode cX1_clears 21 = .ok (.bastore, 1) := by decide +kernel
theorem dX1_clears_22 : decode cX1_clears 22 = .ok (.iinc 1 1, 3) := by decide +kernel
theorem dX1_clears_25 : decode cX1_clears 25 = .ok (.goto (-23), 3) := by decide +kernel
theorem dX1_clears_28 : decode cX1_clears 28 = .ok (.aload_n 0, 1) := by decide +kernel
theorem dX1_clears_29 : decode cX1_clears 29 = .ok (.iconst 0, 1) := by decide +kernel
theorem dX1_clears_30 : decode cX1_clears 30 = .ok (.putfield 88, 3) := by decide +kernel
theorem dX1_clears_33 : decode cX1_clears 33 = .ok (.aload_n 0, 1) := by decide +kernel
theorem dX1_clears_34 : decode cX1_clears 34 = .ok (.iconst 0, 1) := by decide +kernel
theorem dX1_clears_35 : decode cX1_clears 35 = .ok (.putfield 61, 3) := by decide +kernel
theorem dX1_clears_38 : decode cX1_clears 38 = .ok (.return_, 1) := by decide +kernel
theorem dX1_start_0 : decode cX1_start 0 = .ok (.iload_n 1, 1) := by decide +kernel
theorem dX1_start_1 : decode cX1_start 1 = .ok (.iconst 0, 1) := by decide +kernel
theorem dX1_start_2 : decode cX1_start 2 = .ok (.iconst 2, 1) := by decide +kernel
theorem dX1_start_3 : decode cX1_start 3 = .ok (.invokestatic 36, 3) := by decide +kernel
theorem dX1_start_6 : decode cX1_start 6 = .ok (.ifCond .eq 18, 3) := by decide +kernel
theorem dX1_start_9 : decode cX1_start 9 = .ok (.iload_n 2, 1) := by decide +kernel
theorem dX1_start_10 : decode cX1_start 10 = .ok (.iconst 0, 1) := by decide +kernel
theorem dX1_start_11 : decode cX1_start 11 = .ok (.sipush 999, 3) := by decide +kernel
theorem dX1_start_14 : decode cX1_start 14 = .ok (.invokestatic 36, 3) := by decide +kernel
theorem dX1_start_17 : decode cX1_start 17 = .ok (.ifCond .eq 7, 3) := by decide +kernel
theorem dX1_start_20 : decode cX1_start 20 = .ok (.iconst 1, 1) := by decide +kernel
theorem dX1_start_21 : decode cX1_start 21 = .ok (.goto 4, 3) := by decide +kernel
theorem dX1_start_24 : decode cX1_start 24 = .ok (.iconst 0, 1) := by decide +kernel
theorem dX1_start_25 : decode cX1_start 25 = .ok (.istore_n 3, 1) := by decide +kernel
theorem dX1_start_26 : decode cX1_start 26 = .ok (.aload_n 0, 1) := by decide +kernel
theorem dX1_start_27 : decode cX1_start 27 = .ok (.iload_n 3, 1) := by decide +kernel
theorem dX1_start_28 : decode cX1_start 28 = .ok (.ifCond .ne 7, 3) := by decide +kernel
theorem dX1_start_31 : decode cX1_start 31 = .ok (.iconst 1, 1) := by decide +kernel
theorem dX1_start_32 : decode cX1_start 32 = .ok (.goto 15, 3) := by decide +kernel
theorem dX1_start_35 : decode cX1_start 35 = .ok (.aload_n 0, 1) := by decide +kernel
theorem dX1_start_36 : decode cX1_start 36 = .ok (.getfield 58, 3) := by decide +kernel
theorem dX1_start_39 : decode cX1_start 39 = .ok (.ifCond .ne 7, 3) := by decide +kernel
theorem dX1_start_42 : decode cX1_start 42 = .ok (.iconst 0, 1) := by decide +kernel
theorem dX1_start_43 : decode cX1_start 43 = .ok (.goto 4, 3) := by decide +kernel
theorem dX1_start_46 : decode cX1_start 46 = .ok (.iconst 2, 1) := by decide +kernel
theorem dX1_start_47 : decode cX1_start 47 = .ok (.invokevirtual 81, 3) := by decide +kernel
theorem dX1_start_50 : decode cX1_start 50 = .ok (.ifCond .eq 22, 3) := by decide +kernel
theorem dX1_start_53 : decode cX1_start 53 = .ok (.aload_n 0, 1) := by decide +kernel
theorem dX1_start_54 : decode cX1_start 54 = .ok (.iload_n 1, 1) := by decide +kernel
theorem dX1_start_55 : decode cX1_start 55 = .ok (.putfield 40, 3) := by decide +kernel
theorem dX1_start_58 : decode cX1_start 58 = .ok (.aload_n 0, 1) := by decide +kernel
theorem dX1_start_59 : decode cX1_start 59 = .ok (.iload_n 2, 1) := by decide +kernel
theorem dX1_start_60 : decode cX1_start 60 = .ok (.putfield 43, 3) := by decide +kernel
theorem dX1_start_63 : decode cX1_start 63 = .ok (.aload_n 0, 1) := by decide +kernel
theorem dX1_start_64 : decode cX1_start 64 = .ok (.invokevirtual 91, 3) := by decide +kernel
theorem dX1_start_67 : decode cX1_start 67 = .ok (.aload_n 0, 1) := by decide +kernel
theorem dX1_start_68 : decode cX1_start 68 = .ok (.iconst 1, 1) := by decide +kernel
theorem dX1_start_69 : decode cX1_start 69 = .ok (.putfield 58, 3) := by decide +kernel
theorem dX1_start_72 : decode cX1_start 72 = .ok (.return_, 1) := by decide +kernel
theorem dX1_setPace_0 : decode cX1_setPace 0 = .ok (.aload_n 0, 1) := by decide +kernel
theorem dX1_setPace_1 : decode cX1_setPace 1 = .ok (.iload_n 1, 1) := by decide +kernel
theorem dX1_setPace_2 : decode cX1_setPace 2 = .ok (.iconst 1, 1) := by decide +kernel
theorem dX1_setPace_3 : decode cX1_setPace 3 = .ok (.bipush 40, 2) := by decide +kernel
theorem dX1_setPace_5 : decode cX1_setPace 5 = .ok (.invokestatic 36, 3) := by decide +kernel
theorem dX1_setPace_8 : decode cX1_setPace 8 = .ok (.ifCond .eq 17, 3) := by decide +kernel
theorem dX1_setPace_11 : decode cX1_setPace 11 = .ok (.iload_n 2, 1) := by decide +kernel
theorem dX1_setPace_12 : decode cX1_setPace 12 = .ok (.iconst 0, 1) := by decide +kernel
theorem dX1_setPace_13 : decode cX1_setPace 13 = .ok (.bipush 100, 2) := by decide +kernel
theorem dX1_setPace_15 : decode cX1_setPace 15 = .ok (.invokestatic 36, 3) := by decide +kernel
theorem dX1_setPace_18 : decode cX1_setPace 18 = .ok (.ifCond .eq 7, 3) := by decide +kernel
theorem dX1_setPace_21 : decode cX1_setPace 21 = .ok (.iconst 0, 1) := by decide +kernel
theorem dX1_setPace_22 : decode cX1_setPace 22 = .ok (.goto 4, 3) := by decide +kernel
theorem dX1_setPace_25 : decode cX1_setPace 25 = .ok (.iconst 1, 1) := by decide +kernel
theorem dX1_setPace_26 : decode cX1_setPace 26 = .ok (.invokevirtual 81, 3) := by decide +kernel
theorem dX1_setPace_29 : decode cX1_setPace 29 = .ok (.ifCond .eq 13, 3) := by decide +kernel
theorem dX1_setPace_32 : decode cX1_setPace 32 = .ok (.aload_n 0, 1) := by decide +kernel
theorem dX1_setPace_33 : decode cX1_setPace 33 = .ok (.iload_n 1, 1) := by decide +kernel
theorem dX1_setPace_34 : decode cX1_setPace 34 = .ok (.putfield 23, 3) := by decide +kernel
theorem dX1_setPace_37 : decode cX1_setPace 37 = .ok (.aload_n 0, 1) := by decide +kernel
theorem dX1_setPace_38 : decode cX1_setPace 38 = .ok (.iload_n 2, 1) := by decide +kernel
theorem dX1_setPace_39 : decode cX1_setPace 39 = .ok (.putfield 27, 3) := by decide +kernel
theorem dX1_setPace_42 : decode cX1_setPace 42 = .ok (.return_, 1) := by decide +kernel
theorem dX1_plays_0 : decode cX1_plays 0 = .ok (.iconst 0, 1) := by decide +kernel
theorem dX1_plays_1 : decode cX1_plays 1 = .ok (.istore_n 2, 1) := by decide +kernel
theorem dX1_plays_2 : decode cX1_plays 2 = .ok (.iload_n 2, 1) := by decide +kernel
theorem dX1_plays_3 : decode cX1_plays 3 = .ok (.iload_n 1, 1) := by decide +kernel
theorem dX1_plays_4 : decode cX1_plays 4 = .ok (.if_icmp .ge 19, 3) := by decide +kernel
theorem dX1_plays_7 : decode cX1_plays 7 = .ok (.aload_n 0, 1) := by decide +kernel
theorem dX1_plays_8 : decode cX1_plays 8 = .ok (.aload_n 0, 1) := by decide +kernel
theorem dX1_plays_9 : decode cX1_plays 9 = .ok (.getfield 30, 3) := by decide +kernel
theorem dX1_plays_12 : decode cX1_plays 12 = .ok (.iload_n 2, 1) := by decide +kernel
theorem dX1_plays_13 : decode cX1_plays 13 = .ok (.iaload, 1) := by decide +kernel
theorem dX1_plays_14 : decode cX1_plays 14 = .ok (.invokevirtual 64, 3) := by decide +kernel
theorem dX1_plays_17 : decode cX1_plays 17 = .ok (.iinc 2 1, 3) := by decide +kernel
theorem dX1_plays_20 : decode cX1_plays 20 = .ok (.goto (-18), 3) := by decide +kernel
theorem dX1_plays_23 : decode cX1_plays 23 = .ok (.iload_n 1, 1) := by decide +kernel
theorem dX1_plays_24 : decode cX1_plays 24 = .ok (.istore_n 2, 1) := by decide +kernel
theorem dX1_plays_25 : decode cX1_plays 25 = .ok (.iload_n 2, 1) := by decide +kernel
theorem dX1_plays_26 : decode cX1_plays 26 = .ok (.aload_n 0, 1) := by decide +kernel
theorem dX1_plays_27 : decode cX1_plays 27 = .ok (.getfield 61, 3) := by decide +kernel
theorem dX1_plays_30 : decode cX1_plays 30 = .ok (.if_icmp .ge 23, 3) := by decide +kernel
theorem dX1_plays_33 : decode cX1_plays 33 = .ok (.aload_n 0, 1) := by decide +kernel
theorem dX1_plays_34 : decode cX1_plays 34 = .ok (.getfield 30, 3) := by decide +kernel
theorem dX1_plays_37 : decode cX1_plays 37 = .ok (.iload_n 2, 1) := by decide +kernel
theorem dX1_plays_38 : decode cX1_plays 38 = .ok (.iload_n 1, 1) := by decide +kernel
theorem dX1_plays_39 : decode cX1_plays 39 = .ok (.isub, 1) := by decide +kernel
theorem dX1_plays_40 : decode cX1_plays 40 = .ok (.aload_n 0, 1) := by decide +kernel
theorem dX1_plays_41 : decode cX1_plays 41 = .ok (.getfield 30, 3) := by decide +kernel
theorem dX1_plays_44 : decode cX1_plays 44 = .ok (.iload_n 2, 1) := by decide +kernel
theorem dX1_plays_45 : decode cX1_plays 45 = .ok (.iaload, 1) := by decide +kernel
theorem dX1_plays_46 : decode cX1_plays 46 = .ok (.iastore, 1) := by decide +kernel
theorem dX1_plays_47 : decode cX1_plays 47 = .ok (.iinc 2 1, 3) := by decide +kernel
theorem dX1_plays_50 : decode cX1_plays 50 = .ok (.goto (-25), 3) := by decide +kernel
theorem dX1_plays_53 : decode cX1_plays 53 = .ok (.aload_n 0, 1) := by decide +kernel
theorem dX1_plays_54 : decode cX1_plays 54 = .ok (.dup, 1) := by decide +kernel
theorem dX1_plays_55 : decode cX1_plays 55 = .ok (.getfield 61, 3) := by decide +kernel
theorem dX1_plays_58 : decode cX1_plays 58 = .ok (.iload_n 1, 1) := by decide +kernel
theorem dX1_plays_59 : decode cX1_plays 59 = .ok (.isub, 1) := by decide +kernel
theorem dX1_plays_60 : decode cX1_plays 60 = .ok (.putfield 61, 3) := by decide +kernel
theorem dX1_plays_63 : decode cX1_plays 63 = .ok (.return_, 1) := by decide +kernel
theorem dX1_tick_0 : decode cX1_tick 0 = .ok (.aload_n 0, 1) := by decide +kernel
theorem dX1_tick_1 : decode cX1_tick 1 = .ok (.iload_n 1, 1) := by decide +kernel
theorem dX1_tick_2 : decode cX1_tick 2 = .ok (.iconst 0, 1) := by decide +kernel
theorem dX1_tick_3 : decode cX1_tick 3 = .ok (.sipush 1000, 3) := by decide +kernel
theorem dX1_tick_6 : decode cX1_tick 6 = .ok (.invokestatic 36, 3) := by decide +kernel
theorem dX1_tick_9 : decode cX1_tick 9 = .ok (.ifCond .ne 7, 3) := by decide +kernel
theorem dX1_tick_12 : decode cX1_tick 12 = .ok (.iconst 1, 1) := by decide +kernel
theorem dX1_tick_13 : decode cX1_tick 13 = .ok (.goto 16, 3) := by decide +kernel
theorem dX1_tick_16 : decode cX1_tick 16 = .ok (.aload_n 0, 1) := by decide +kernel
theorem dX1_tick_17 : decode cX1_tick 17 = .ok (.getfield 58, 3) := by decide +kernel
theorem dX1_tick_20 : decode cX1_tick 20 = .ok (.iconst 1, 1) := by decide +kernel
theorem dX1_tick_21 : decode cX1_tick 21 = .ok (.if_icmp .ne 7, 3) := by decide +kernel
theorem dX1_tick_24 : decode cX1_tick 24 = .ok (.iconst 0, 1) := by decide +kernel
theorem dX1_tick_25 : decode cX1_tick 25 = .ok (.goto 4, 3) := by decide +kernel
theorem dX1_tick_28 : decode cX1_tick 28 = .ok (.iconst 2, 1) := by decide +kernel
theorem dX1_tick_29 : decode cX1_tick 29 = .ok (.invokevirtual 81, 3) := by decide +kernel
theorem dX1_tick_32 : decode cX1_tick 32 = .ok (.ifCond .ne 5, 3) := by decide +kernel
theorem dX1_tick_35 : decode cX1_tick 35 = .ok (.iconst 0, 1) := by decide +kernel
theorem dX1_tick_36 : decode cX1_tick 36 = .ok (.ireturn, 1) := by decide +kernel
theorem dX1_tick_37 : decode cX1_tick 37 = .ok (.iload_n 1, 1) := by decide +kernel
theorem dX1_tick_38 : decode cX1_tick 38 = .ok (.aload_n 0, 1) := by decide +kernel
theorem dX1_tick_39 : decode cX1_tick 39 = .ok (.getfield 27, 3) := by decide +kernel
theorem dX1_tick_42 : decode cX1_tick 42 = .ok (.if_icmp .le 5, 3) := by decide +kernel
theorem dX1_tick_45 : decode cX1_tick 45 = .ok (.iconst 0, 1) := by decide +kernel
theorem dX1_tick_46 : decode cX1_tick 46 = .ok (.ireturn, 1) := by decide +kernel
theorem dX1_tick_47 : decode cX1_tick 47 = .ok (.aload_n 0, 1) := by decide +kernel
theorem dX1_tick_48 : decode cX1_tick 48 = .ok (.getfield 88, 3) := by decide +kernel
theorem dX1_tick_51 : decode cX1_tick 51 = .ok (.bipush 40, 2) := by decide +kernel
theorem dX1_tick_53 : decode cX1_tick 53 = .ok (.if_icmp .ge 13, 3) := by decide +kernel
theorem dX1_tick_56 : decode cX1_tick 56 = .ok (.bipush 40, 2) := by decide +kernel
theorem dX1_tick_58 : decode cX1_tick 58 = .ok (.aload_n 0, 1) := by decide +kernel
theorem dX1_tick_59 : decode cX1_tick 59 = .ok (.getfield 88, 3) := by decide +kernel
theorem dX1_tick_62 : decode cX1_tick 62 = .ok (.isub, 1) := by decide +kernel
theorem dX1_tick_63 : decode cX1_tick 63 = .ok (.goto 7, 3) := by decide +kernel
theorem dX1_tick_66 : decode cX1_tick 66 = .ok (.aload_n 0, 1) := by decide +kernel
theorem dX1_tick_67 : decode cX1_tick 67 = .ok (.getfield 61, 3) := by decide +kernel
theorem dX1_tick_70 : decode cX1_tick 70 = .ok (.istore_n 2, 1) := by decide +kernel
theorem dX1_tick_71 : decode cX1_tick 71 = .ok (.iload_n 2, 1) := by decide +kernel
theorem dX1_tick_72 : decode cX1_tick 72 = .ok (.aload_n 0, 1) := by decide +kernel
theorem dX1_tick_73 : decode cX1_tick 73 = .ok (.getfield 23, 3) := by decide +kernel
theorem dX1_tick_76 : decode cX1_tick 76 = .ok (.if_icmp .ge 7, 3) := by decide +kernel
theorem dX1_tick_79 : decode cX1_tick 79 = .ok (.iload_n 2, 1) := by decide +kernel
theorem dX1_tick_80 : decode cX1_tick 80 = .ok (.goto 7, 3) := by decide +kernel
theorem dX1_tick_83 : decode cX1_tick 83 = .ok (.aload_n 0, 1) := by decide +kernel
theorem dX1_tick_84 : decode cX1_tick 84 = .ok (.getfield 23, 3) := by decide +kernel
theorem dX1_tick_87 : decode cX1_tick 87 = .ok (.istore_n 3, 1) := by decide +kernel
theorem dX1_tick_88 : decode cX1_tick 88 = .ok (.aload_n 0, 1) := by decide +kernel
theorem dX1_tick_89 : decode cX1_tick 89 = .ok (.getfield 88, 3) := by decide +kernel
theorem dX1_tick_92 : decode cX1_tick 92 = .ok (.bipush 40, 2) := by decide +kernel
theorem dX1_tick_94 : decode cX1_tick 94 = .ok (.if_icmp .ge 39, 3) := by decide +kernel
theorem dX1_tick_97 : decode cX1_tick 97 = .ok (.iconst 0, 1) := by decide +kernel
theorem dX1_tick_98 : decode cX1_tick 98 = .ok (.istore 4, 2) := by decide +kernel
theorem dX1_tick_100 : decode cX1_tick 100 = .ok (.iload 4, 2) := by decide +kernel
theorem dX1_tick_102 : decode cX1_tick 102 = .ok (.iload_n 3, 1) := by decide +kernel
theorem dX1_tick_103 : decode cX1_tick 103 = .ok (.if_icmp .ge 27, 3) := by decide +kernel
theorem dX1_tick_106 : decode cX1_tick 106 = .ok (.aload_n 0, 1) := by decide +kernel
theorem dX1_tick_107 : decode cX1_tick 107 = .ok (.aload_n 0, 1) := by decide +kernel
theorem dX1_tick_108 : decode cX1_tick 108 = .ok (.getfield 88, 3) := by decide +kernel
theorem dX1_tick_111 : decode cX1_tick 111 = .ok (.invokevirtual 64, 3) := by decide +kernel
theorem dX1_tick_114 : decode cX1_tick 114 = .ok (.aload_n 0, 1) := by decide +kernel
theorem dX1_tick_115 : decode cX1_tick 115 = .ok (.dup, 1) := by decide +kernel
theorem dX1_tick_116 : decode cX1_tick 116 = .ok (.getfield 88, 3) := by decide +kernel
theorem dX1_tick_119 : decode cX1_tick 119 = .ok (.iconst 1, 1) := by decide +kernel
theorem dX1_tick_120 : decode cX1_tick 120 = .ok (.iadd, 1) := by decide +kernel
theorem dX1_tick_121 : decode cX1_tick 121 = .ok (.putfield 88, 3) := by decide +kernel
theorem dX1_tick_124 : decode cX1_tick 124 = .ok (.iinc 4 1, 3) := by decide +kernel
theorem dX1_tick_127 : decode cX1_tick 127 = .ok (.goto (-27), 3) := by decide +kernel
theorem dX1_tick_130 : decode cX1_tick 130 = .ok (.goto 8, 3) := by decide +kernel
theorem dX1_tick_133 : decode cX1_tick 133 = .ok (.aload_n 0, 1) := by decide +kernel
theorem dX1_tick_134 : decode cX1_tick 134 = .ok (.iload_n 3, 1) := by decide +kernel
theorem dX1_tick_135 : decode cX1_tick 135 = .ok (.invokevirtual 94, 3) := by decide +kernel
theorem dX1_tick_138 : decode cX1_tick 138 = .ok (.iload_n 3, 1) := by decide +kernel
theorem dX1_tick_139 : decode cX1_tick 139 = .ok (.ireturn, 1) := by decide +kernel
theorem dX1_cutOver_0 : decode cX1_cutOver 0 = .ok (.aload_n 0, 1) := by decide +kernel
theorem dX1_cutOver_1 : decode cX1_cutOver 1 = .ok (.iload_n 1, 1) := by decide +kernel
theorem dX1_cutOver_2 : decode cX1_cutOver 2 = .ok (.iconst 0, 1) := by decide +kernel
theorem dX1_cutOver_3 : decode cX1_cutOver 3 = .ok (.sipush 1000, 3) := by decide +kernel
theorem dX1_cutOver_6 : decode cX1_cutOver 6 = .ok (.invokestatic 36, 3) := by decide +kernel
theorem dX1_cutOver_9 : decode cX1_cutOver 9 = .ok (.ifCond .ne 7, 3) := by decide +kernel
theorem dX1_cutOver_12 : decode cX1_cutOver 12 = .ok (.iconst 1, 1) := by decide +kernel
theorem dX1_cutOver_13 : decode cX1_cutOver 13 = .ok (.goto 33, 3) := by decide +kernel
theorem dX1_cutOver_16 : decode cX1_cutOver 16 = .ok (.aload_n 0, 1) := by decide +kernel
theorem dX1_cutOver_17 : decode cX1_cutOver 17 = .ok (.getfield 58, 3) := by decide +kernel
theorem dX1_cutOver_20 : decode cX1_cutOver 20 = .ok (.iconst 1, 1) := by decide +kernel
theorem dX1_cutOver_21 : decode cX1_cutOver 21 = .ok (.if_icmp .ne 20, 3) := by decide +kernel
theorem dX1_cutOver_24 : decode cX1_cutOver 24 = .ok (.aload_n 0, 1) := by decide +kernel
theorem dX1_cutOver_25 : decode cX1_cutOver 25 = .ok (.getfield 88, 3) := by decide +kernel
theorem dX1_cutOver_28 : decode cX1_cutOver 28 = .ok (.bipush 40, 2) := by decide +kernel
theorem dX1_cutOver_30 : decode cX1_cutOver 30 = .ok (.if_icmp .lt 11, 3) := by decide +kernel
theorem dX1_cutOver_33 : decode cX1_cutOver 33 = .ok (.aload_n 0, 1) := by decide +kernel
theorem dX1_cutOver_34 : decode cX1_cutOver 34 = .ok (.getfield 61, 3) := by decide +kernel
theorem dX1_cutOver_37 : decode cX1_cutOver 37 = .ok (.iload_n 1, 1) := by decide +kernel
theorem dX1_cutOver_38 : decode cX1_cutOver 38 = .ok (.if_icmp .le 7, 3) := by decide +kernel
theorem dX1_cutOver_41 : decode cX1_cutOver 41 = .ok (.iconst 2, 1) := by decide +kernel
theorem dX1_cutOver_42 : decode cX1_cutOver 42 = .ok (.goto 4, 3) := by decide +kernel
theorem dX1_cutOver_45 : decode cX1_cutOver 45 = .ok (.iconst 0, 1) := by decide +kernel
theorem dX1_cutOver_46 : decode cX1_cutOver 46 = .ok (.invokevirtual 81, 3) := by decide +kernel
theorem dX1_cutOver_49 : decode cX1_cutOver 49 = .ok (.ifCond .ne 5, 3) := by decide +kernel
theorem dX1_cutOver_52 : decode cX1_cutOver 52 = .ok (.iconst 0, 1) := by decide +kernel
theorem dX1_cutOver_53 : decode cX1_cutOver 53 = .ok (.ireturn, 1) := by decide +kernel
theorem dX1_cutOver_54 : decode cX1_cutOver 54 = .ok (.aload_n 0, 1) := by decide +kernel
theorem dX1_cutOver_55 : decode cX1_cutOver 55 = .ok (.getfield 61, 3) := by decide +kernel
theorem dX1_cutOver_58 : decode cX1_cutOver 58 = .ok (.istore_n 2, 1) := by decide +kernel
theorem dX1_cutOver_59 : decode cX1_cutOver 59 = .ok (.aload_n 0, 1) := by decide +kernel
theorem dX1_cutOver_60 : decode cX1_cutOver 60 = .ok (.iload_n 2, 1) := by decide +kernel
theorem dX1_cutOver_61 : decode cX1_cutOver 61 = .ok (.invokevirtual 94, 3) := by decide +kernel
theorem dX1_cutOver_64 : decode cX1_cutOver 64 = .ok (.aload_n 0, 1) := by decide +kernel
theorem dX1_cutOver_65 : decode cX1_cutOver 65 = .ok (.iconst 2, 1) := by decide +kernel
theorem dX1_cutOver_66 : decode cX1_cutOver 66 = .ok (.putfield 58, 3) := by decide +kernel
theorem dX1_cutOver_69 : decode cX1_cutOver 69 = .ok (.iload_n 2, 1) := by decide +kernel
theorem dX1_cutOver_70 : decode cX1_cutOver 70 = .ok (.ireturn, 1) := by decide +kernel
theorem dX1_undo_0 : decode cX1_undo 0 = .ok (.aload_n 0, 1) := by decide +kernel
theorem dX1_undo_1 : decode cX1_undo 1 = .ok (.aload_n 0, 1) := by decide +kernel
theorem dX1_undo_2 : decode cX1_undo 2 = .ok (.getfield 58, 3) := by decide +kernel
theorem dX1_undo_5 : decode cX1_undo 5 = .ok (.iconst 2, 1) := by decide +kernel
theorem dX1_undo_6 : decode cX1_undo 6 = .ok (.if_icmp .ne 7, 3) := by decide +kernel
theorem dX1_undo_9 : decode cX1_undo 9 = .ok (.iconst 0, 1) := by decide +kernel
theorem dX1_undo_10 : decode cX1_undo 10 = .ok (.goto 4, 3) := by decide +kernel
theorem dX1_undo_13 : decode cX1_undo 13 = .ok (.iconst 1, 1) := by decide +kernel
theorem dX1_undo_14 : decode cX1_undo 14 = .ok (.invokevirtual 81, 3) := by decide +kernel
theorem dX1_undo_17 : decode cX1_undo 17 = .ok (.ifCond .eq 8, 3) := by decide +kernel
theorem dX1_undo_20 : decode cX1_undo 20 = .ok (.aload_n 0, 1) := by decide +kernel
theorem dX1_undo_21 : decode cX1_undo 21 = .ok (.iconst 1, 1) := by decide +kernel
theorem dX1_undo_22 : decode cX1_undo 22 = .ok (.putfield 58, 3) := by decide +kernel
theorem dX1_undo_25 : decode cX1_undo 25 = .ok (.return_, 1) := by decide +kernel
theorem dX1_shadowed_0 : decode cX1_shadowed 0 = .ok (.iconst 0, 1) := by decide +kernel
theorem dX1_shadowed_1 : decode cX1_shadowed 1 = .ok (.istore_n 1, 1) := by decide +kernel
theorem dX1_shadowed_2 : decode cX1_shadowed 2 = .ok (.iconst 0, 1) := by decide +kernel
theorem dX1_shadowed_3 : decode cX1_shadowed 3 = .ok (.istore_n 2, 1) := by decide +kernel
theorem dX1_shadowed_4 : decode cX1_shadowed 4 = .ok (.iload_n 2, 1) := by decide +kernel
theorem dX1_shadowed_5 : decode cX1_shadowed 5 = .ok (.bipush 40, 2) := by decide +kernel
theorem dX1_shadowed_7 : decode cX1_shadowed 7 = .ok (.if_icmp .ge 26, 3) := by decide +kernel
theorem dX1_shadowed_10 : decode cX1_shadowed 10 = .ok (.iload_n 1, 1) := by decide +kernel
theorem dX1_shadowed_11 : decode cX1_shadowed 11 = .ok (.aload_n 0, 1) := by decide +kernel
theorem dX1_shadowed_12 : decode cX1_shadowed 12 = .ok (.getfield 16, 3) := by decide +kernel
theorem dX1_shadowed_15 : decode cX1_shadowed 15 = .ok (.iload_n 2, 1) := by decide +kernel
theorem dX1_shadowed_16 : decode cX1_shadowed 16 = .ok (.baload, 1) := by decide +kernel
theorem dX1_shadowed_17 : decode cX1_shadowed 17 = .ok (.ifCond .eq 7, 3) := by decide +kernel
theorem dX1_shadowed_20 : decode cX1_shadowed 20 = .ok (.iconst 1, 1) := by decide +kernel
theorem dX1_shadowed_21 : decode cX1_shadowed 21 = .ok (.goto 4, 3) := by decide +kernel
theorem dX1_shadowed_24 : decode cX1_shadowed 24 = .ok (.iconst 0, 1) := by decide +kernel
theorem dX1_shadowed_25 : decode cX1_shadowed 25 = .ok (.iadd, 1) := by decide +kernel
theorem dX1_shadowed_26 : decode cX1_shadowed 26 = .ok (.istore_n 1, 1) := by decide +kernel
theorem dX1_shadowed_27 : decode cX1_shadowed 27 = .ok (.iinc 2 1, 3) := by decide +kernel
theorem dX1_shadowed_30 : decode cX1_shadowed 30 = .ok (.goto (-26), 3) := by decide +kernel
theorem dX1_shadowed_33 : decode cX1_shadowed 33 = .ok (.iload_n 1, 1) := by decide +kernel
theorem dX1_shadowed_34 : decode cX1_shadowed 34 = .ok (.ireturn, 1) := by decide +kernel
theorem dX1_finish_0 : decode cX1_finish 0 = .ok (.aload_n 0, 1) := by decide +kernel
theorem dX1_finish_1 : decode cX1_finish 1 = .ok (.aload_n 0, 1) := by decide +kernel
theorem dX1_finish_2 : decode cX1_finish 2 = .ok (.getfield 58, 3) := by decide +kernel
theorem dX1_finish_5 : decode cX1_finish 5 = .ok (.iconst 2, 1) := by decide +kernel
theorem dX1_finish_6 : decode cX1_finish 6 = .ok (.if_icmp .ne 7, 3) := by decide +kernel
theorem dX1_finish_9 : decode cX1_finish 9 = .ok (.iconst 0, 1) := by decide +kernel
theorem dX1_finish_10 : decode cX1_finish 10 = .ok (.goto 4, 3) := by decide +kernel
theorem dX1_finish_13 : decode cX1_finish 13 = .ok (.iconst 1, 1) := by decide +kernel
theorem dX1_finish_14 : decode cX1_finish 14 = .ok (.invokevirtual 81, 3) := by decide +kernel
theorem dX1_finish_17 : decode cX1_finish 17 = .ok (.ifCond .ne 5, 3) := by decide +kernel
theorem dX1_finish_20 : decode cX1_finish 20 = .ok (.iconst 0, 1) := by decide +kernel
theorem dX1_finish_21 : decode cX1_finish 21 = .ok (.ireturn, 1) := by decide +kernel
theorem dX1_finish_22 : decode cX1_finish 22 = .ok (.iconst 0, 1) := by decide +kernel
theorem dX1_finish_23 : decode cX1_finish 23 = .ok (.istore_n 1, 1) := by decide +kernel
theorem dX1_finish_24 : decode cX1_finish 24 = .ok (.iconst 0, 1) := by decide +kernel
theorem dX1_finish_25 : decode cX1_finish 25 = .ok (.istore_n 2, 1) := by decide +kernel
theorem dX1_finish_26 : decode cX1_finish 26 = .ok (.iload_n 2, 1) := by decide +kernel
theorem dX1_finish_27 : decode cX1_finish 27 = .ok (.bipush 40, 2) := by decide +kernel
theorem dX1_finish_29 : decode cX1_finish 29 = .ok (.if_icmp .ge 38, 3) := by decide +kernel
theorem dX1_finish_32 : decode cX1_finish 32 = .ok (.aload_n 0, 1) := by decide +kernel
theorem dX1_finish_33 : decode cX1_finish 33 = .ok (.getfield 7, 3) := by decide +kernel
theorem dX1_finish_36 : decode cX1_finish 36 = .ok (.iload_n 2, 1) := by decide +kernel
theorem dX1_finish_37 : decode cX1_finish 37 = .ok (.iaload, 1) := by decide +kernel
theorem dX1_finish_38 : decode cX1_finish 38 = .ok (.iconst (-1), 1) := by decide +kernel
theorem dX1_finish_39 : decode cX1_finish 39 = .ok (.if_icmp .eq 22, 3) := by decide +kernel
theorem dX1_finish_42 : decode cX1_finish 42 = .ok (.aload_n 0, 1) := by decide +kernel
theorem dX1_finish_43 : decode cX1_finish 43 = .ok (.getfield 16, 3) := by decide +kernel
theorem dX1_finish_46 : decode cX1_finish 46 = .ok (.iload_n 2, 1) := by decide +kernel
theorem dX1_finish_47 : decode cX1_finish 47 = .ok (.baload, 1) := by decide +kernel
theorem dX1_finish_48 : decode cX1_finish 48 = .ok (.ifCond .ne 13, 3) := by decide +kernel
theorem dX1_finish_51 : decode cX1_finish 51 = .ok (.aload_n 0, 1) := by decide +kernel
theorem dX1_finish_52 : decode cX1_finish 52 = .ok (.getfield 7, 3) := by decide +kernel
theorem dX1_finish_55 : decode cX1_finish 55 = .ok (.iload_n 2, 1) := by decide +kernel
theorem dX1_finish_56 : decode cX1_finish 56 = .ok (.iconst (-1), 1) := by decide +kernel
theorem dX1_finish_57 : decode cX1_finish 57 = .ok (.iastore, 1) := by decide +kernel
theorem dX1_finish_58 : decode cX1_finish 58 = .ok (.iinc 1 1, 3) := by decide +kernel
theorem dX1_finish_61 : decode cX1_finish 61 = .ok (.iinc 2 1, 3) := by decide +kernel
theorem dX1_finish_64 : decode cX1_finish 64 = .ok (.goto (-38), 3) := by decide +kernel
theorem dX1_finish_67 : decode cX1_finish 67 = .ok (.aload_n 0, 1) := by decide +kernel
theorem dX1_finish_68 : decode cX1_finish 68 = .ok (.invokevirtual 91, 3) := by decide +kernel
theorem dX1_finish_71 : decode cX1_finish 71 = .ok (.aload_n 0, 1) := by decide +kernel
theorem dX1_finish_72 : decode cX1_finish 72 = .ok (.iconst 0, 1) := by decide +kernel
theorem dX1_finish_73 : decode cX1_finish 73 = .ok (.putfield 58, 3) := by decide +kernel
theorem dX1_finish_76 : decode cX1_finish 76 = .ok (.iload_n 1, 1) := by decide +kernel
theorem dX1_finish_77 : decode cX1_finish 77 = .ok (.ireturn, 1) := by decide +kernel
theorem dX1_giveUp_0 : decode cX1_giveUp 0 = .ok (.aload_n 0, 1) := by decide +kernel
theorem dX1_giveUp_1 : decode cX1_giveUp 1 = .ok (.aload_n 0, 1) := by decide +kernel
theorem dX1_giveUp_2 : decode cX1_giveUp 2 = .ok (.getfield 58, 3) := by decide +kernel
theorem dX1_giveUp_5 : decode cX1_giveUp 5 = .ok (.iconst 1, 1) := by decide +kernel
theorem dX1_giveUp_6 : decode cX1_giveUp 6 = .ok (.if_icmp .ne 7, 3) := by decide +kernel
theorem dX1_giveUp_9 : decode cX1_giveUp 9 = .ok (.iconst 0, 1) := by decide +kernel
theorem dX1_giveUp_10 : decode cX1_giveUp 10 = .ok (.goto 4, 3) := by decide +kernel
theorem dX1_giveUp_13 : decode cX1_giveUp 13 = .ok (.iconst 1, 1) := by decide +kernel
theorem dX1_giveUp_14 : decode cX1_giveUp 14 = .ok (.invokevirtual 81, 3) := by decide +kernel
theorem dX1_giveUp_17 : decode cX1_giveUp 17 = .ok (.ifCond .ne 5, 3) := by decide +kernel
theorem dX1_giveUp_20 : decode cX1_giveUp 20 = .ok (.iconst 0, 1) := by decide +kernel
theorem dX1_giveUp_21 : decode cX1_giveUp 21 = .ok (.ireturn, 1) := by decide +kernel
theorem dX1_giveUp_22 : decode cX1_giveUp 22 = .ok (.aload_n 0, 1) := by decide +kernel
theorem dX1_giveUp_23 : decode cX1_giveUp 23 = .ok (.invokevirtual 97, 3) := by decide +kernel
theorem dX1_giveUp_26 : decode cX1_giveUp 26 = .ok (.istore_n 1, 1) := by decide +kernel
theorem dX1_giveUp_27 : decode cX1_giveUp 27 = .ok (.aload_n 0, 1) := by decide +kernel
theorem dX1_giveUp_28 : decode cX1_giveUp 28 = .ok (.invokevirtual 91, 3) := by decide +kernel
theorem dX1_giveUp_31 : decode cX1_giveUp 31 = .ok (.aload_n 0, 1) := by decide +kernel
theorem dX1_giveUp_32 : decode cX1_giveUp 32 = .ok (.iconst 0, 1) := by decide +kernel
theorem dX1_giveUp_33 : decode cX1_giveUp 33 = .ok (.putfield 58, 3) := by decide +kernel
theorem dX1_giveUp_36 : decode cX1_giveUp 36 = .ok (.iload_n 1, 1) := by decide +kernel
theorem dX1_giveUp_37 : decode cX1_giveUp 37 = .ok (.ireturn, 1) := by decide +kernel
theorem dX1_row_0 : decode cX1_row 0 = .ok (.aload_n 0, 1) := by decide +kernel
theorem dX1_row_1 : decode cX1_row 1 = .ok (.iload_n 1, 1) := by decide +kernel
theorem dX1_row_2 : decode cX1_row 2 = .ok (.invokestatic 68, 3) := by decide +kernel
theorem dX1_row_5 : decode cX1_row 5 = .ok (.ifCond .eq 7, 3) := by decide +kernel
theorem dX1_row_8 : decode cX1_row 8 = .ok (.iconst 0, 1) := by decide +kernel
theorem dX1_row_9 : decode cX1_row 9 = .ok (.goto 4, 3) := by decide +kernel
theorem dX1_row_12 : decode cX1_row 12 = .ok (.iconst 1, 1) := by decide +kernel
theorem dX1_row_13 : decode cX1_row 13 = .ok (.invokevirtual 81, 3) := by decide +kernel
theorem dX1_row_16 : decode cX1_row 16 = .ok (.ifCond .eq 24, 3) := by decide +kernel
theorem dX1_row_19 : decode cX1_row 19 = .ok (.aload_n 0, 1) := by decide +kernel
theorem dX1_row_20 : decode cX1_row 20 = .ok (.iload_n 1, 1) := by decide +kernel
theorem dX1_row_21 : decode cX1_row 21 = .ok (.invokevirtual 78, 3) := by decide +kernel
theorem dX1_row_24 : decode cX1_row 24 = .ok (.ifCond .eq 12, 3) := by decide +kernel
theorem dX1_row_27 : decode cX1_row 27 = .ok (.aload_n 0, 1) := by decide +kernel
theorem dX1_row_28 : decode cX1_row 28 = .ok (.getfield 7, 3) := by decide +kernel
theorem dX1_row_31 : decode cX1_row 31 = .ok (.iload_n 1, 1) := by decide +kernel
theorem dX1_row_32 : decode cX1_row 32 = .ok (.iaload, 1) := by decide +kernel
theorem dX1_row_33 : decode cX1_row 33 = .ok (.goto 8, 3) := by decide +kernel
theorem dX1_row_36 : decode cX1_row 36 = .ok (.iconst (-1), 1) := by decide +kernel
theorem dX1_row_37 : decode cX1_row 37 = .ok (.goto 4, 3) := by decide +kernel
theorem dX1_row_40 : decode cX1_row 40 = .ok (.iconst 0, 1) := by decide +kernel
theorem dX1_row_41 : decode cX1_row 41 = .ok (.ireturn, 1) := by decide +kernel
theorem dX1_rows_0 : decode cX1_rows 0 = .ok (.aload_n 0, 1) := by decide +kernel
theorem dX1_rows_1 : decode cX1_rows 1 = .ok (.iconst 0, 1) := by decide +kernel
theorem dX1_rows_2 : decode cX1_rows 2 = .ok (.putfield 33, 3) := by decide +kernel
theorem dX1_rows_5 : decode cX1_rows 5 = .ok (.iconst 0, 1) := by decide +kernel
theorem dX1_rows_6 : decode cX1_rows 6 = .ok (.istore_n 1, 1) := by decide +kernel
theorem dX1_rows_7 : decode cX1_rows 7 = .ok (.iconst 0, 1) := by decide +kernel
theorem dX1_rows_8 : decode cX1_rows 8 = .ok (.istore_n 2, 1) := by decide +kernel
theorem dX1_rows_9 : decode cX1_rows 9 = .ok (.iload_n 2, 1) := by decide +kernel
theorem dX1_rows_10 : decode cX1_rows 10 = .ok (.bipush 40, 2) := by decide +kernel
theorem dX1_rows_12 : decode cX1_rows 12 = .ok (.if_icmp .ge 25, 3) := by decide +kernel
theorem dX1_rows_15 : decode cX1_rows 15 = .ok (.iload_n 1, 1) := by decide +kernel
theorem dX1_rows_16 : decode cX1_rows 16 = .ok (.aload_n 0, 1) := by decide +kernel
theorem dX1_rows_17 : decode cX1_rows 17 = .ok (.iload_n 2, 1) := by decide +kernel
theorem dX1_rows_18 : decode cX1_rows 18 = .ok (.invokevirtual 78, 3) := by decide +kernel
theorem dX1_rows_21 : decode cX1_rows 21 = .ok (.ifCond .eq 7, 3) := by decide +kernel
theorem dX1_rows_24 : decode cX1_rows 24 = .ok (.iconst 1, 1) := by decide +kernel
theorem dX1_rows_25 : decode cX1_rows 25 = .ok (.goto 4, 3) := by decide +kernel
theorem dX1_rows_28 : decode cX1_rows 28 = .ok (.iconst 0, 1) := by decide +kernel
theorem dX1_rows_29 : decode cX1_rows 29 = .ok (.iadd, 1) := by decide +kernel
theorem dX1_rows_30 : decode cX1_rows 30 = .ok (.istore_n 1, 1) := by decide +kernel
theorem dX1_rows_31 : decode cX1_rows 31 = .ok (.iinc 2 1, 3) := by decide +kernel
theorem dX1_rows_34 : decode cX1_rows 34 = .ok (.goto (-25), 3) := by decide +kernel
theorem dX1_rows_37 : decode cX1_rows 37 = .ok (.iload_n 1, 1) := by decide +kernel
theorem dX1_rows_38 : decode cX1_rows 38 = .ok (.ireturn, 1) := by decide +kernel
theorem dX1_phase_0 : decode cX1_phase 0 = .ok (.aload_n 0, 1) := by decide +kernel
theorem dX1_phase_1 : decode cX1_phase 1 = .ok (.iconst 0, 1) := by decide +kernel
theorem dX1_phase_2 : decode cX1_phase 2 = .ok (.putfield 33, 3) := by decide +kernel
theorem dX1_phase_5 : decode cX1_phase 5 = .ok (.aload_n 0, 1) := by decide +kernel
theorem dX1_phase_6 : decode cX1_phase 6 = .ok (.getfield 58, 3) := by decide +kernel
theorem dX1_phase_9 : decode cX1_phase 9 = .ok (.ireturn, 1) := by decide +kernel
theorem dX1_mark_0 : decode cX1_mark 0 = .ok (.aload_n 0, 1) := by decide +kernel
theorem dX1_mark_1 : decode cX1_mark 1 = .ok (.iconst 0, 1) := by decide +kernel
theorem dX1_mark_2 : decode cX1_mark 2 = .ok (.putfield 33, 3) := by decide +kernel
theorem dX1_mark_5 : decode cX1_mark 5 = .ok (.aload_n 0, 1) := by decide +kernel
theorem dX1_mark_6 : decode cX1_mark 6 = .ok (.getfield 58, 3) := by decide +kernel
theorem dX1_mark_9 : decode cX1_mark 9 = .ok (.ifCond .ne 7, 3) := by decide +kernel
theorem dX1_mark_12 : decode cX1_mark 12 = .ok (.iconst (-1), 1) := by decide +kernel
theorem dX1_mark_13 : decode cX1_mark 13 = .ok (.goto 7, 3) := by decide +kernel
theorem dX1_mark_16 : decode cX1_mark 16 = .ok (.aload_n 0, 1) := by decide +kernel
theorem dX1_mark_17 : decode cX1_mark 17 = .ok (.getfield 88, 3) := by decide +kernel
theorem dX1_mark_20 : decode cX1_mark 20 = .ok (.ireturn, 1) := by decide +kernel
theorem dX1_notes_0 : decode cX1_notes 0 = .ok (.aload_n 0, 1) := by decide +kernel
theorem dX1_notes_1 : decode cX1_notes 1 = .ok (.iconst 0, 1) := by decide +kernel
theorem dX1_notes_2 : decode cX1_notes 2 = .ok (.putfield 33, 3) := by decide +kernel
theorem dX1_notes_5 : decode cX1_notes 5 = .ok (.aload_n 0, 1) := by decide +kernel
theorem dX1_notes_6 : decode cX1_notes 6 = .ok (.getfield 61, 3) := by decide +kernel
theorem dX1_notes_9 : decode cX1_notes 9 = .ok (.ireturn, 1) := by decide +kernel
theorem dX1_isColumn_0 : decode cX1_isColumn 0 = .ok (.iload_n 0, 1) := by decide +kernel
theorem dX1_isColumn_1 : decode cX1_isColumn 1 = .ok (.iconst 0, 1) := by decide +kernel
theorem dX1_isColumn_2 : decode cX1_isColumn 2 = .ok (.iconst 2, 1) := by decide +kernel
theorem dX1_isColumn_3 : decode cX1_isColumn 3 = .ok (.invokestatic 36, 3) := by decide +kernel
theorem dX1_isColumn_6 : decode cX1_isColumn 6 = .ok (.ireturn, 1) := by decide +kernel
theorem dX1_shadow_0 : decode cX1_shadow 0 = .ok (.aload_n 0, 1) := by decide +kernel
theorem dX1_shadow_1 : decode cX1_shadow 1 = .ok (.iload_n 1, 1) := by decide +kernel
theorem dX1_shadow_2 : decode cX1_shadow 2 = .ok (.invokestatic 68, 3) := by decide +kernel
theorem dX1_shadow_5 : decode cX1_shadow 5 = .ok (.ifCond .eq 14, 3) := by decide +kernel
theorem dX1_shadow_8 : decode cX1_shadow 8 = .ok (.iload_n 2, 1) := by decide +kernel
theorem dX1_shadow_9 : decode cX1_shadow 9 = .ok (.invokestatic 101, 3) := by decide +kernel
theorem dX1_shadow_12 : decode cX1_shadow 12 = .ok (.ifCond .eq 7, 3) := by decide +kernel
theorem dX1_shadow_15 : decode cX1_shadow 15 = .ok (.iconst 0, 1) := by decide +kernel
theorem dX1_shadow_16 : decode cX1_shadow 16 = .ok (.goto 4, 3) := by decide +kernel
theorem dX1_shadow_19 : decode cX1_shadow 19 = .ok (.iconst 1, 1) := by decide +kernel
theorem dX1_shadow_20 : decode cX1_shadow 20 = .ok (.invokevirtual 81, 3) := by decide +kernel
theorem dX1_shadow_23 : decode cX1_shadow 23 = .ok (.ifCond .ne 5, 3) := by decide +kernel
theorem dX1_shadow_26 : decode cX1_shadow 26 = .ok (.iconst 0, 1) := by decide +kernel
theorem dX1_shadow_27 : decode cX1_shadow 27 = .ok (.ireturn, 1) := by decide +kernel
theorem dX1_shadow_28 : decode cX1_shadow 28 = .ok (.aload_n 0, 1) := by decide +kernel
theorem dX1_shadow_29 : decode cX1_shadow 29 = .ok (.getfield 16, 3) := by decide +kernel
theorem dX1_shadow_32 : decode cX1_shadow 32 = .ok (.iload_n 1, 1) := by decide +kernel
theorem dX1_shadow_33 : decode cX1_shadow 33 = .ok (.baload, 1) := by decide +kernel
theorem dX1_shadow_34 : decode cX1_shadow 34 = .ok (.ifCond .eq 16, 3) := by decide +kernel
theorem dX1_shadow_37 : decode cX1_shadow 37 = .ok (.aload_n 0, 1) := by decide +kernel
theorem dX1_shadow_38 : decode cX1_shadow 38 = .ok (.getfield 13, 3) := by decide +kernel
theorem dX1_shadow_41 : decode cX1_shadow 41 = .ok (.iconst 3, 1) := by decide +kernel
theorem dX1_shadow_42 : decode cX1_shadow 42 = .ok (.iload_n 1, 1) := by decide +kernel
theorem dX1_shadow_43 : decode cX1_shadow 43 = .ok (.imul, 1) := by decide +kernel
theorem dX1_shadow_44 : decode cX1_shadow 44 = .ok (.iload_n 2, 1) := by decide +kernel
theorem dX1_shadow_45 : decode cX1_shadow 45 = .ok (.iadd, 1) := by decide +kernel
theorem dX1_shadow_46 : decode cX1_shadow 46 = .ok (.iaload, 1) := by decide +kernel
theorem dX1_shadow_47 : decode cX1_shadow 47 = .ok (.goto 4, 3) := by decide +kernel
theorem dX1_shadow_50 : decode cX1_shadow 50 = .ok (.iconst (-1), 1) := by decide +kernel
theorem dX1_shadow_51 : decode cX1_shadow 51 = .ok (.ireturn, 1) := by decide +kernel
theorem dX1_shadowRows_0 : decode cX1_shadowRows 0 = .ok (.aload_n 0, 1) := by decide +kernel
theorem dX1_shadowRows_1 : decode cX1_shadowRows 1 = .ok (.iconst 0, 1) := by decide +kernel
theorem dX1_shadowRows_2 : decode cX1_shadowRows 2 = .ok (.putfield 33, 3) := by decide +kernel
theorem dX1_shadowRows_5 : decode cX1_shadowRows 5 = .ok (.aload_n 0, 1) := by decide +kernel
theorem dX1_shadowRows_6 : decode cX1_shadowRows 6 = .ok (.invokevirtual 97, 3) := by decide +kernel
theorem dX1_shadowRows_9 : decode cX1_shadowRows 9 = .ok (.ireturn, 1) := by decide +kernel
theorem dX1_isRefused_0 : decode cX1_isRefused 0 = .ok (.aload_n 0, 1) := by decide +kernel
theorem dX1_isRefused_1 : decode cX1_isRefused 1 = .ok (.iload_n 1, 1) := by decide +kernel
theorem dX1_isRefused_2 : decode cX1_isRefused 2 = .ok (.invokestatic 68, 3) := by decide +kernel
theorem dX1_isRefused_5 : decode cX1_isRefused 5 = .ok (.ifCond .eq 7, 3) := by decide +kernel
theorem dX1_isRefused_8 : decode cX1_isRefused 8 = .ok (.iconst 0, 1) := by decide +kernel
theorem dX1_isRefused_9 : decode cX1_isRefused 9 = .ok (.goto 4, 3) := by decide +kernel
theorem dX1_isRefused_12 : decode cX1_isRefused 12 = .ok (.iconst 1, 1) := by decide +kernel
theorem dX1_isRefused_13 : decode cX1_isRefused 13 = .ok (.invokevirtual 81, 3) := by decide +kernel
theorem dX1_isRefused_16 : decode cX1_isRefused 16 = .ok (.ifCond .eq 16, 3) := by decide +kernel
theorem dX1_isRefused_19 : decode cX1_isRefused 19 = .ok (.aload_n 0, 1) := by decide +kernel
theorem dX1_isRefused_20 : decode cX1_isRefused 20 = .ok (.getfield 20, 3) := by decide +kernel
theorem dX1_isRefused_23 : decode cX1_isRefused 23 = .ok (.iload_n 1, 1) := by decide +kernel
theorem dX1_isRefused_24 : decode cX1_isRefused 24 = .ok (.baload, 1) := by decide +kernel
theorem dX1_isRefused_25 : decode cX1_isRefused 25 = .ok (.ifCond .eq 7, 3) := by decide +kernel
theorem dX1_isRefused_28 : decode cX1_isRefused 28 = .ok (.iconst 1, 1) := by decide +kernel
theorem dX1_isRefused_29 : decode cX1_isRefused 29 = .ok (.goto 4, 3) := by decide +kernel
theorem dX1_isRefused_32 : decode cX1_isRefused 32 = .ok (.iconst 0, 1) := by decide +kernel
theorem dX1_isRefused_33 : decode cX1_isRefused 33 = .ok (.ireturn, 1) := by decide +kernel
theorem dX1_isEven_0 : decode cX1_isEven 0 = .ok (.aload_n 0, 1) := by decide +kernel
theorem dX1_isEven_1 : decode cX1_isEven 1 = .ok (.getfield 7, 3) := by decide +kernel
theorem dX1_isEven_4 : decode cX1_isEven 4 = .ok (.iload_n 1, 1) := by decide +kernel
theorem dX1_isEven_5 : decode cX1_isEven 5 = .ok (.iaload, 1) := by decide +kernel
theorem dX1_isEven_6 : decode cX1_isEven 6 = .ok (.iconst (-1), 1) := by decide +kernel
theorem dX1_isEven_7 : decode cX1_isEven 7 = .ok (.if_icmp .eq 20, 3) := by decide +kernel
theorem dX1_isEven_10 : decode cX1_isEven 10 = .ok (.aload_n 0, 1) := by decide +kernel
theorem dX1_isEven_11 : decode cX1_isEven 11 = .ok (.aload_n 0, 1) := by decide +kernel
theorem dX1_isEven_12 : decode cX1_isEven 12 = .ok (.getfield 7, 3) := by decide +kernel
theorem dX1_isEven_15 : decode cX1_isEven 15 = .ok (.iload_n 1, 1) := by decide +kernel
theorem dX1_isEven_16 : decode cX1_isEven 16 = .ok (.iaload, 1) := by decide +kernel
theorem dX1_isEven_17 : decode cX1_isEven 17 = .ok (.invokevirtual 50, 3) := by decide +kernel
theorem dX1_isEven_20 : decode cX1_isEven 20 = .ok (.ifCond .eq 7, 3) := by decide +kernel
theorem dX1_isEven_23 : decode cX1_isEven 23 = .ok (.iconst 1, 1) := by decide +kernel
theorem dX1_isEven_24 : decode cX1_isEven 24 = .ok (.goto 4, 3) := by decide +kernel
theorem dX1_isEven_27 : decode cX1_isEven 27 = .ok (.iconst 0, 1) := by decide +kernel
theorem dX1_isEven_28 : decode cX1_isEven 28 = .ok (.istore_n 2, 1) := by decide +kernel
theorem dX1_isEven_29 : decode cX1_isEven 29 = .ok (.iload_n 2, 1) := by decide +kernel
theorem dX1_isEven_30 : decode cX1_isEven 30 = .ok (.aload_n 0, 1) := by decide +kernel
theorem dX1_isEven_31 : decode cX1_isEven 31 = .ok (.getfield 16, 3) := by decide +kernel
theorem dX1_isEven_34 : decode cX1_isEven 34 = .ok (.iload_n 1, 1) := by decide +kernel
theorem dX1_isEven_35 : decode cX1_isEven 35 = .ok (.baload, 1) := by decide +kernel
theorem dX1_isEven_36 : decode cX1_isEven 36 = .ok (.if_icmp .ne 7, 3) := by decide +kernel
theorem dX1_isEven_39 : decode cX1_isEven 39 = .ok (.iconst 1, 1) := by decide +kernel
theorem dX1_isEven_40 : decode cX1_isEven 40 = .ok (.goto 4, 3) := by decide +kernel
theorem dX1_isEven_43 : decode cX1_isEven 43 = .ok (.iconst 0, 1) := by decide +kernel
theorem dX1_isEven_44 : decode cX1_isEven 44 = .ok (.istore_n 3, 1) := by decide +kernel
theorem dX1_isEven_45 : decode cX1_isEven 45 = .ok (.iconst 0, 1) := by decide +kernel
theorem dX1_isEven_46 : decode cX1_isEven 46 = .ok (.istore 4, 2) := by decide +kernel
theorem dX1_isEven_48 : decode cX1_isEven 48 = .ok (.iload 4, 2) := by decide +kernel
theorem dX1_isEven_50 : decode cX1_isEven 50 = .ok (.iconst 3, 1) := by decide +kernel
theorem dX1_isEven_51 : decode cX1_isEven 51 = .ok (.if_icmp .ge 49, 3) := by decide +kernel
theorem dX1_isEven_54 : decode cX1_isEven 54 = .ok (.iload_n 2, 1) := by decide +kernel
theorem dX1_isEven_55 : decode cX1_isEven 55 = .ok (.ifCond .eq 45, 3) := by decide +kernel
theorem dX1_isEven_58 : decode cX1_isEven 58 = .ok (.iload_n 3, 1) := by decide +kernel
theorem dX1_isEven_59 : decode cX1_isEven 59 = .ok (.ifCond .eq 33, 3) := by decide +kernel
theorem dX1_isEven_62 : decode cX1_isEven 62 = .ok (.aload_n 0, 1) := by decide +kernel
theorem dX1_isEven_63 : decode cX1_isEven 63 = .ok (.getfield 13, 3) := by decide +kernel
theorem dX1_isEven_66 : decode cX1_isEven 66 = .ok (.iconst 3, 1) := by decide +kernel
theorem dX1_isEven_67 : decode cX1_isEven 67 = .ok (.iload_n 1, 1) := by decide +kernel
theorem dX1_isEven_68 : decode cX1_isEven 68 = .ok (.imul, 1) := by decide +kernel
theorem dX1_isEven_69 : decode cX1_isEven 69 = .ok (.iload 4, 2) := by decide +kernel
theorem dX1_isEven_71 : decode cX1_isEven 71 = .ok (.iadd, 1) := by decide +kernel
theorem dX1_isEven_72 : decode cX1_isEven 72 = .ok (.iaload, 1) := by decide +kernel
theorem dX1_isEven_73 : decode cX1_isEven 73 = .ok (.aload_n 0, 1) := by decide +kernel
theorem dX1_isEven_74 : decode cX1_isEven 74 = .ok (.aload_n 0, 1) := by decide +kernel
theorem dX1_isEven_75 : decode cX1_isEven 75 = .ok (.getfield 7, 3) := by decide +kernel
theorem dX1_isEven_78 : decode cX1_isEven 78 = .ok (.iload_n 1, 1) := by decide +kernel
theorem dX1_isEven_79 : decode cX1_isEven 79 = .ok (.iaload, 1) := by decide +kernel
theorem dX1_isEven_80 : decode cX1_isEven 80 = .ok (.iload 4, 2) := by decide +kernel
theorem dX1_isEven_82 : decode cX1_isEven 82 = .ok (.invokevirtual 54, 3) := by decide +kernel
theorem dX1_isEven_85 : decode cX1_isEven 85 = .ok (.if_icmp .ne 7, 3) := by decide +kernel
theorem dX1_isEven_88 : decode cX1_isEven 88 = .ok (.iconst 1, 1) := by decide +kernel
theorem dX1_isEven_89 : decode cX1_isEven 89 = .ok (.goto 4, 3) := by decide +kernel
theorem dX1_isEven_92 : decode cX1_isEven 92 = .ok (.iconst 0, 1) := by decide +kernel
theorem dX1_isEven_93 : decode cX1_isEven 93 = .ok (.istore_n 3, 1) := by decide +kernel
theorem dX1_isEven_94 : decode cX1_isEven 94 = .ok (.iinc 4 1, 3) := by decide +kernel
theorem dX1_isEven_97 : decode cX1_isEven 97 = .ok (.goto (-49), 3) := by decide +kernel
theorem dX1_isEven_100 : decode cX1_isEven 100 = .ok (.iload_n 3, 1) := by decide +kernel
theorem dX1_isEven_101 : decode cX1_isEven 101 = .ok (.ireturn, 1) := by decide +kernel
theorem dX1_behind_0 : decode cX1_behind 0 = .ok (.aload_n 0, 1) := by decide +kernel
theorem dX1_behind_1 : decode cX1_behind 1 = .ok (.iconst 0, 1) := by decide +kernel
theorem dX1_behind_2 : decode cX1_behind 2 = .ok (.putfield 33, 3) := by decide +kernel
theorem dX1_behind_5 : decode cX1_behind 5 = .ok (.iconst 0, 1) := by decide +kernel
theorem dX1_behind_6 : decode cX1_behind 6 = .ok (.istore_n 1, 1) := by decide +kernel
theorem dX1_behind_7 : decode cX1_behind 7 = .ok (.iconst 0, 1) := by decide +kernel
theorem dX1_behind_8 : decode cX1_behind 8 = .ok (.istore_n 2, 1) := by decide +kernel
theorem dX1_behind_9 : decode cX1_behind 9 = .ok (.iload_n 2, 1) := by decide +kernel
theorem dX1_behind_10 : decode cX1_behind 10 = .ok (.bipush 40, 2) := by decide +kernel
theorem dX1_behind_12 : decode cX1_behind 12 = .ok (.if_icmp .ge 32, 3) := by decide +kernel
theorem dX1_behind_15 : decode cX1_behind 15 = .ok (.aload_n 0, 1) := by decide +kernel
theorem dX1_behind_16 : decode cX1_behind 16 = .ok (.getfield 58, 3) := by decide +kernel
theorem dX1_behind_19 : decode cX1_behind 19 = .ok (.ifCond .eq 25, 3) := by decide +kernel
theorem dX1_behind_22 : decode cX1_behind 22 = .ok (.iload_n 1, 1) := by decide +kernel
theorem dX1_behind_23 : decode cX1_behind 23 = .ok (.aload_n 0, 1) := by decide +kernel
theorem dX1_behind_24 : decode cX1_behind 24 = .ok (.iload_n 2, 1) := by decide +kernel
theorem dX1_behind_25 : decode cX1_behind 25 = .ok (.invokevirtual 104, 3) := by decide +kernel
theorem dX1_behind_28 : decode cX1_behind 28 = .ok (.ifCond .eq 7, 3) := by decide +kernel
theorem dX1_behind_31 : decode cX1_behind 31 = .ok (.iconst 0, 1) := by decide +kernel
theorem dX1_behind_32 : decode cX1_behind 32 = .ok (.goto 4, 3) := by decide +kernel
theorem dX1_behind_35 : decode cX1_behind 35 = .ok (.iconst 1, 1) := by decide +kernel
theorem dX1_behind_36 : decode cX1_behind 36 = .ok (.iadd, 1) := by decide +kernel
theorem dX1_behind_37 : decode cX1_behind 37 = .ok (.istore_n 1, 1) := by decide +kernel
theorem dX1_behind_38 : decode cX1_behind 38 = .ok (.iinc 2 1, 3) := by decide +kernel
theorem dX1_behind_41 : decode cX1_behind 41 = .ok (.goto (-32), 3) := by decide +kernel
theorem dX1_behind_44 : decode cX1_behind 44 = .ok (.iload_n 1, 1) := by decide +kernel
theorem dX1_behind_45 : decode cX1_behind 45 = .ok (.ireturn, 1) := by decide +kernel
theorem dX1_sum_0 : decode cX1_sum 0 = .ok (.iconst 0, 1) := by decide +kernel
theorem dX1_sum_1 : decode cX1_sum 1 = .ok (.istore_n 2, 1) := by decide +kernel
theorem dX1_sum_2 : decode cX1_sum 2 = .ok (.iconst 0, 1) := by decide +kernel
theorem dX1_sum_3 : decode cX1_sum 3 = .ok (.istore_n 3, 1) := by decide +kernel
theorem dX1_sum_4 : decode cX1_sum 4 = .ok (.iload_n 3, 1) := by decide +kernel
theorem dX1_sum_5 : decode cX1_sum 5 = .ok (.bipush 40, 2) := by decide +kernel
theorem dX1_sum_7 : decode cX1_sum 7 = .ok (.if_icmp .ge 42, 3) := by decide +kernel
theorem dX1_sum_10 : decode cX1_sum 10 = .ok (.iload_n 1, 1) := by decide +kernel
theorem dX1_sum_11 : decode cX1_sum 11 = .ok (.invokestatic 101, 3) := by decide +kernel
theorem dX1_sum_14 : decode cX1_sum 14 = .ok (.ifCond .eq 35, 3) := by decide +kernel
theorem dX1_sum_17 : decode cX1_sum 17 = .ok (.iload_n 2, 1) := by decide +kernel
theorem dX1_sum_18 : decode cX1_sum 18 = .ok (.aload_n 0, 1) := by decide +kernel
theorem dX1_sum_19 : decode cX1_sum 19 = .ok (.getfield 16, 3) := by decide +kernel
theorem dX1_sum_22 : decode cX1_sum 22 = .ok (.iload_n 3, 1) := by decide +kernel
theorem dX1_sum_23 : decode cX1_sum 23 = .ok (.baload, 1) := by decide +kernel
theorem dX1_sum_24 : decode cX1_sum 24 = .ok (.ifCond .eq 16, 3) := by decide +kernel
theorem dX1_sum_27 : decode cX1_sum 27 = .ok (.aload_n 0, 1) := by decide +kernel
theorem dX1_sum_28 : decode cX1_sum 28 = .ok (.getfield 13, 3) := by decide +kernel
theorem dX1_sum_31 : decode cX1_sum 31 = .ok (.iconst 3, 1) := by decide +kernel
theorem dX1_sum_32 : decode cX1_sum 32 = .ok (.iload_n 3, 1) := by decide +kernel
theorem dX1_sum_33 : decode cX1_sum 33 = .ok (.imul, 1) := by decide +kernel
theorem dX1_sum_34 : decode cX1_sum 34 = .ok (.iload_n 1, 1) := by decide +kernel
theorem dX1_sum_35 : decode cX1_sum 35 = .ok (.iadd, 1) := by decide +kernel
theorem dX1_sum_36 : decode cX1_sum 36 = .ok (.iaload, 1) := by decide +kernel
theorem dX1_sum_37 : decode cX1_sum 37 = .ok (.goto 4, 3) := by decide +kernel
theorem dX1_sum_40 : decode cX1_sum 40 = .ok (.iconst 0, 1) := by decide +kernel
theorem dX1_sum_41 : decode cX1_sum 41 = .ok (.iadd, 1) := by decide +kernel
theorem dX1_sum_42 : decode cX1_sum 42 = .ok (.istore_n 2, 1) := by decide +kernel
theorem dX1_sum_43 : decode cX1_sum 43 = .ok (.iinc 3 1, 3) := by decide +kernel
theorem dX1_sum_46 : decode cX1_sum 46 = .ok (.goto (-42), 3) := by decide +kernel
theorem dX1_sum_49 : decode cX1_sum 49 = .ok (.aload_n 0, 1) := by decide +kernel
theorem dX1_sum_50 : decode cX1_sum 50 = .ok (.iload_n 1, 1) := by decide +kernel
theorem dX1_sum_51 : decode cX1_sum 51 = .ok (.invokestatic 101, 3) := by decide +kernel
theorem dX1_sum_54 : decode cX1_sum 54 = .ok (.ifCond .eq 7, 3) := by decide +kernel
theorem dX1_sum_57 : decode cX1_sum 57 = .ok (.iconst 0, 1) := by decide +kernel
theorem dX1_sum_58 : decode cX1_sum 58 = .ok (.goto 4, 3) := by decide +kernel
theorem dX1_sum_61 : decode cX1_sum 61 = .ok (.iconst 1, 1) := by decide +kernel
theorem dX1_sum_62 : decode cX1_sum 62 = .ok (.invokevirtual 81, 3) := by decide +kernel
theorem dX1_sum_65 : decode cX1_sum 65 = .ok (.ifCond .eq 7, 3) := by decide +kernel
theorem dX1_sum_68 : decode cX1_sum 68 = .ok (.iload_n 2, 1) := by decide +kernel
theorem dX1_sum_69 : decode cX1_sum 69 = .ok (.goto 4, 3) := by decide +kernel
theorem dX1_sum_72 : decode cX1_sum 72 = .ok (.iconst 0, 1) := by decide +kernel
theorem dX1_sum_73 : decode cX1_sum 73 = .ok (.ireturn, 1) := by decide +kernel
theorem dX1_sumAtOnce_0 : decode cX1_sumAtOnce 0 = .ok (.iconst 0, 1) := by decide +kernel
theorem dX1_sumAtOnce_1 : decode cX1_sumAtOnce 1 = .ok (.istore_n 2, 1) := by decide +kernel
theorem dX1_sumAtOnce_2 : decode cX1_sumAtOnce 2 = .ok (.iconst 0, 1) := by decide +kernel
theorem dX1_sumAtOnce_3 : decode cX1_sumAtOnce 3 = .ok (.istore_n 3, 1) := by decide +kernel
theorem dX1_sumAtOnce_4 : decode cX1_sumAtOnce 4 = .ok (.iload_n 3, 1) := by decide +kernel
theorem dX1_sumAtOnce_5 : decode cX1_sumAtOnce 5 = .ok (.bipush 40, 2) := by decide +kernel
theorem dX1_sumAtOnce_7 : decode cX1_sumAtOnce 7 = .ok (.if_icmp .ge 64, 3) := by decide +kernel
theorem dX1_sumAtOnce_10 : decode cX1_sumAtOnce 10 = .ok (.iload_n 1, 1) := by decide +kernel
theorem dX1_sumAtOnce_11 : decode cX1_sumAtOnce 11 = .ok (.invokestatic 101, 3) := by decide +kernel
theorem dX1_sumAtOnce_14 : decode cX1_sumAtOnce 14 = .ok (.ifCond .eq 57, 3) := by decide +kernel
theorem dX1_sumAtOnce_17 : decode cX1_sumAtOnce 17 = .ok (.aload_n 0, 1) := by decide +kernel
theorem dX1_sumAtOnce_18 : decode cX1_sumAtOnce 18 = .ok (.getfield 58, 3) := by decide +kernel
theorem dX1_sumAtOnce_21 : decode cX1_sumAtOnce 21 = .ok (.ifCond .eq 50, 3) := by decide +kernel
theorem dX1_sumAtOnce_24 : decode cX1_sumAtOnce 24 = .ok (.iload_n 2, 1) := by decide +kernel
theorem dX1_sumAtOnce_25 : decode cX1_sumAtOnce 25 = .ok (.aload_n 0, 1) := by decide +kernel
theorem dX1_sumAtOnce_26 : decode cX1_sumAtOnce 26 = .ok (.getfield 7, 3) := by decide +kernel
theorem dX1_sumAtOnce_29 : decode cX1_sumAtOnce 29 = .ok (.iload_n 3, 1) := by decide +kernel
theorem dX1_sumAtOnce_30 : decode cX1_sumAtOnce 30 = .ok (.iaload, 1) := by decide +kernel
theorem dX1_sumAtOnce_31 : decode cX1_sumAtOnce 31 = .ok (.iconst (-1), 1) := by decide +kernel
theorem dX1_sumAtOnce_32 : decode cX1_sumAtOnce 32 = .ok (.if_icmp .eq 30, 3) := by decide +kernel
theorem dX1_sumAtOnce_35 : decode cX1_sumAtOnce 35 = .ok (.aload_n 0, 1) := by decide +kernel
theorem dX1_sumAtOnce_36 : decode cX1_sumAtOnce 36 = .ok (.aload_n 0, 1) := by decide +kernel
theorem dX1_sumAtOnce_37 : decode cX1_sumAtOnce 37 = .ok (.getfield 7, 3) := by decide +kernel
theorem dX1_sumAtOnce_40 : decode cX1_sumAtOnce 40 = .ok (.iload_n 3, 1) := by decide +kernel
theorem dX1_sumAtOnce_41 : decode cX1_sumAtOnce 41 = .ok (.iaload, 1) := by decide +kernel
theorem dX1_sumAtOnce_42 : decode cX1_sumAtOnce 42 = .ok (.invokevirtual 50, 3) := by decide +kernel
theorem dX1_sumAtOnce_45 : decode cX1_sumAtOnce 45 = .ok (.ifCond .eq 17, 3) := by decide +kernel
theorem dX1_sumAtOnce_48 : decode cX1_sumAtOnce 48 = .ok (.aload_n 0, 1) := by decide +kernel
theorem dX1_sumAtOnce_49 : decode cX1_sumAtOnce 49 = .ok (.aload_n 0, 1) := by decide +kernel
theorem dX1_sumAtOnce_50 : decode cX1_sumAtOnce 50 = .ok (.getfield 7, 3) := by decide +kernel
theorem dX1_sumAtOnce_53 : decode cX1_sumAtOnce 53 = .ok (.iload_n 3, 1) := by decide +kernel
theorem dX1_sumAtOnce_54 : decode cX1_sumAtOnce 54 = .ok (.iaload, 1) := by decide +kernel
theorem dX1_sumAtOnce_55 : decode cX1_sumAtOnce 55 = .ok (.iload_n 1, 1) := by decide +kernel
theorem dX1_sumAtOnce_56 : decode cX1_sumAtOnce 56 = .ok (.invokevirtual 54, 3) := by decide +kernel
theorem dX1_sumAtOnce_59 : decode cX1_sumAtOnce 59 = .ok (.goto 4, 3) := by decide +kernel
theorem dX1_sumAtOnce_62 : decode cX1_sumAtOnce 62 = .ok (.iconst 0, 1) := by decide +kernel
theorem dX1_sumAtOnce_63 : decode cX1_sumAtOnce 63 = .ok (.iadd, 1) := by decide +kernel
theorem dX1_sumAtOnce_64 : decode cX1_sumAtOnce 64 = .ok (.istore_n 2, 1) := by decide +kernel
theorem dX1_sumAtOnce_65 : decode cX1_sumAtOnce 65 = .ok (.iinc 3 1, 3) := by decide +kernel
theorem dX1_sumAtOnce_68 : decode cX1_sumAtOnce 68 = .ok (.goto (-64), 3) := by decide +kernel
theorem dX1_sumAtOnce_71 : decode cX1_sumAtOnce 71 = .ok (.aload_n 0, 1) := by decide +kernel
theorem dX1_sumAtOnce_72 : decode cX1_sumAtOnce 72 = .ok (.iload_n 1, 1) := by decide +kernel
theorem dX1_sumAtOnce_73 : decode cX1_sumAtOnce 73 = .ok (.invokestatic 101, 3) := by decide +kernel
theorem dX1_sumAtOnce_76 : decode cX1_sumAtOnce 76 = .ok (.ifCond .eq 7, 3) := by decide +kernel
theorem dX1_sumAtOnce_79 : decode cX1_sumAtOnce 79 = .ok (.iconst 0, 1) := by decide +kernel
theorem dX1_sumAtOnce_80 : decode cX1_sumAtOnce 80 = .ok (.goto 4, 3) := by decide +kernel
theorem dX1_sumAtOnce_83 : decode cX1_sumAtOnce 83 = .ok (.iconst 1, 1) := by decide +kernel
theorem dX1_sumAtOnce_84 : decode cX1_sumAtOnce 84 = .ok (.invokevirtual 81, 3) := by decide +kernel
theorem dX1_sumAtOnce_87 : decode cX1_sumAtOnce 87 = .ok (.ifCond .eq 7, 3) := by decide +kernel
theorem dX1_sumAtOnce_90 : decode cX1_sumAtOnce 90 = .ok (.iload_n 2, 1) := by decide +kernel
theorem dX1_sumAtOnce_91 : decode cX1_sumAtOnce 91 = .ok (.goto 4, 3) := by decide +kernel
theorem dX1_sumAtOnce_94 : decode cX1_sumAtOnce 94 = .ok (.iconst 0, 1) := by decide +kernel
theorem dX1_sumAtOnce_95 : decode cX1_sumAtOnce 95 = .ok (.ireturn, 1) := by decide +kernel
