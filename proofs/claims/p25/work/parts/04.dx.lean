theorem dX0_init_0 : decode cX0_init 0 = .ok (.aload_n 0, 1) := by decide +kernel
theorem dX0_init_1 : decode cX0_init 1 = .ok (.invokespecial 1, 3) := by decide +kernel
theorem dX0_init_4 : decode cX0_init 4 = .ok (.aload_n 0, 1) := by decide +kernel
theorem dX0_init_5 : decode cX0_init 5 = .ok (.bipush 40, 2) := by decide +kernel
theorem dX0_init_7 : decode cX0_init 7 = .ok (.newarray .int, 2) := by decide +kernel
theorem dX0_init_9 : decode cX0_init 9 = .ok (.putfield 9, 3) := by decide +kernel
theorem dX0_init_12 : decode cX0_init 12 = .ok (.aload_n 0, 1) := by decide +kernel
theorem dX0_init_13 : decode cX0_init 13 = .ok (.bipush 40, 2) := by decide +kernel
theorem dX0_init_15 : decode cX0_init 15 = .ok (.newarray .int, 2) := by decide +kernel
theorem dX0_init_17 : decode cX0_init 17 = .ok (.putfield 13, 3) := by decide +kernel
theorem dX0_init_20 : decode cX0_init 20 = .ok (.aload_n 0, 1) := by decide +kernel
theorem dX0_init_21 : decode cX0_init 21 = .ok (.iconst 3, 1) := by decide +kernel
theorem dX0_init_22 : decode cX0_init 22 = .ok (.bipush 40, 2) := by decide +kernel
theorem dX0_init_24 : decode cX0_init 24 = .ok (.multianewarray 16 2, 4) := by decide +kernel
theorem dX0_init_28 : decode cX0_init 28 = .ok (.putfield 18, 3) := by decide +kernel
theorem dX0_init_31 : decode cX0_init 31 = .ok (.aload_n 0, 1) := by decide +kernel
theorem dX0_init_32 : decode cX0_init 32 = .ok (.bipush 40, 2) := by decide +kernel
theorem dX0_init_34 : decode cX0_init 34 = .ok (.newarray .boolean, 2) := by decide +kernel
theorem dX0_init_36 : decode cX0_init 36 = .ok (.putfield 21, 3) := by decide +kernel
theorem dX0_init_39 : decode cX0_init 39 = .ok (.aload_n 0, 1) := by decide +kernel
theorem dX0_init_40 : decode cX0_init 40 = .ok (.sipush 1024, 3) := by decide +kernel
theorem dX0_init_43 : decode cX0_init 43 = .ok (.newarray .int, 2) := by decide +kernel
theorem dX0_init_45 : decode cX0_init 45 = .ok (.putfield 25, 3) := by decide +kernel
theorem dX0_init_48 : decode cX0_init 48 = .ok (.aload_n 0, 1) := by decide +kernel
theorem dX0_init_49 : decode cX0_init 49 = .ok (.getfield 9, 3) := by decide +kernel
theorem dX0_init_52 : decode cX0_init 52 = .ok (.iconst (-1), 1) := by decide +kernel
theorem dX0_init_53 : decode cX0_init 53 = .ok (.invokestatic 28, 3) := by decide +kernel
theorem dX0_init_56 : decode cX0_init 56 = .ok (.aload_n 0, 1) := by decide +kernel
theorem dX0_init_57 : decode cX0_init 57 = .ok (.getfield 18, 3) := by decide +kernel
theorem dX0_init_60 : decode cX0_init 60 = .ok (.astore_n 1, 1) := by decide +kernel
theorem dX0_init_61 : decode cX0_init 61 = .ok (.aload_n 1, 1) := by decide +kernel
theorem dX0_init_62 : decode cX0_init 62 = .ok (.arraylength, 1) := by decide +kernel
theorem dX0_init_63 : decode cX0_init 63 = .ok (.istore_n 2, 1) := by decide +kernel
theorem dX0_init_64 : decode cX0_init 64 = .ok (.iconst 0, 1) := by decide +kernel
theorem dX0_init_65 : decode cX0_init 65 = .ok (.istore_n 3, 1) := by decide +kernel
theorem dX0_init_66 : decode cX0_init 66 = .ok (.iload_n 3, 1) := by decide +kernel
theorem dX0_init_67 : decode cX0_init 67 = .ok (.iload_n 2, 1) := by decide +kernel
theorem dX0_init_68 : decode cX0_init 68 = .ok (.if_icmp .ge 20, 3) := by decide +kernel
theorem dX0_init_71 : decode cX0_init 71 = .ok (.aload_n 1, 1) := by decide +kernel
theorem dX0_init_72 : decode cX0_init 72 = .ok (.iload_n 3, 1) := by decide +kernel
theorem dX0_init_73 : decode cX0_init 73 = .ok (.aaload, 1) := by decide +kernel
theorem dX0_init_74 : decode cX0_init 74 = .ok (.astore 4, 2) := by decide +kernel
theorem dX0_init_76 : decode cX0_init 76 = .ok (.aload 4, 2) := by decide +kernel
theorem dX0_init_78 : decode cX0_init 78 = .ok (.iconst (-1), 1) := by decide +kernel
theorem dX0_init_79 : decode cX0_init 79 = .ok (.invokestatic 28, 3) := by decide +kernel
theorem dX0_init_82 : decode cX0_init 82 = .ok (.iinc 3 1, 3) := by decide +kernel
theorem dX0_init_85 : decode cX0_init 85 = .ok (.goto (-19), 3) := by decide +kernel
theorem dX0_init_88 : decode cX0_init 88 = .ok (.aload_n 0, 1) := by decide +kernel
theorem dX0_init_89 : decode cX0_init 89 = .ok (.iconst 0, 1) := by decide +kernel
theorem dX0_init_90 : decode cX0_init 90 = .ok (.putfield 34, 3) := by decide +kernel
theorem dX0_init_93 : decode cX0_init 93 = .ok (.aload_n 0, 1) := by decide +kernel
theorem dX0_init_94 : decode cX0_init 94 = .ok (.bipush 8, 2) := by decide +kernel
theorem dX0_init_96 : decode cX0_init 96 = .ok (.putfield 38, 3) := by decide +kernel
theorem dX0_init_99 : decode cX0_init 99 = .ok (.aload_n 0, 1) := by decide +kernel
theorem dX0_init_100 : decode cX0_init 100 = .ok (.bipush 10, 2) := by decide +kernel
theorem dX0_init_102 : decode cX0_init 102 = .ok (.putfield 41, 3) := by decide +kernel
theorem dX0_init_105 : decode cX0_init 105 = .ok (.return_, 1) := by decide +kernel
theorem dX0_insert_0 : decode cX0_insert 0 = .ok (.iload_n 1, 1) := by decide +kernel
theorem dX0_insert_1 : decode cX0_insert 1 = .ok (.invokestatic 44, 3) := by decide +kernel
theorem dX0_insert_4 : decode cX0_insert 4 = .ok (.ifCond .ne 13, 3) := by decide +kernel
theorem dX0_insert_7 : decode cX0_insert 7 = .ok (.new 48, 3) := by decide +kernel
theorem dX0_insert_10 : decode cX0_insert 10 = .ok (.dup, 1) := by decide +kernel
theorem dX0_insert_11 : decode cX0_insert 11 = .ok (.ldc 50, 2) := by decide +kernel
theorem dX0_insert_13 : decode cX0_insert 13 = .ok (.invokespecial 52, 3) := by decide +kernel
theorem dX0_insert_16 : decode cX0_insert 16 = .ok (.athrow, 1) := by decide +kernel
theorem dX0_insert_17 : decode cX0_insert 17 = .ok (.aload_n 0, 1) := by decide +kernel
theorem dX0_insert_18 : decode cX0_insert 18 = .ok (.iload_n 2, 1) := by decide +kernel
theorem dX0_insert_19 : decode cX0_insert 19 = .ok (.iload_n 3, 1) := by decide +kernel
theorem dX0_insert_20 : decode cX0_insert 20 = .ok (.invokevirtual 55, 3) := by decide +kernel
theorem dX0_insert_23 : decode cX0_insert 23 = .ok (.ifCond .ne 13, 3) := by decide +kernel
theorem dX0_insert_26 : decode cX0_insert 26 = .ok (.new 59, 3) := by decide +kernel
theorem dX0_insert_29 : decode cX0_insert 29 = .ok (.dup, 1) := by decide +kernel
theorem dX0_insert_30 : decode cX0_insert 30 = .ok (.ldc 61, 2) := by decide +kernel
theorem dX0_insert_32 : decode cX0_insert 32 = .ok (.invokespecial 63, 3) := by decide +kernel
theorem dX0_insert_35 : decode cX0_insert 35 = .ok (.athrow, 1) := by decide +kernel
theorem dX0_insert_36 : decode cX0_insert 36 = .ok (.aload_n 0, 1) := by decide +kernel
theorem dX0_insert_37 : decode cX0_insert 37 = .ok (.iload_n 1, 1) := by decide +kernel
theorem dX0_insert_38 : decode cX0_insert 38 = .ok (.invokevirtual 64, 3) := by decide +kernel
theorem dX0_insert_41 : decode cX0_insert 41 = .ok (.ifCond .eq 13, 3) := by decide +kernel
theorem dX0_insert_44 : decode cX0_insert 44 = .ok (.new 67, 3) := by decide +kernel
theorem dX0_insert_47 : decode cX0_insert 47 = .ok (.dup, 1) := by decide +kernel
theorem dX0_insert_48 : decode cX0_insert 48 = .ok (.ldc 69, 2) := by decide +kernel
theorem dX0_insert_50 : decode cX0_insert 50 = .ok (.invokespecial 71, 3) := by decide +kernel
theorem dX0_insert_53 : decode cX0_insert 53 = .ok (.athrow, 1) := by decide +kernel
theorem dX0_insert_54 : decode cX0_insert 54 = .ok (.aload_n 0, 1) := by decide +kernel
theorem dX0_insert_55 : decode cX0_insert 55 = .ok (.iload_n 1, 1) := by decide +kernel
theorem dX0_insert_56 : decode cX0_insert 56 = .ok (.iload_n 2, 1) := by decide +kernel
theorem dX0_insert_57 : decode cX0_insert 57 = .ok (.iload_n 3, 1) := by decide +kernel
theorem dX0_insert_58 : decode cX0_insert 58 = .ok (.invokevirtual 72, 3) := by decide +kernel
theorem dX0_insert_61 : decode cX0_insert 61 = .ok (.aload_n 0, 1) := by decide +kernel
theorem dX0_insert_62 : decode cX0_insert 62 = .ok (.iload_n 1, 1) := by decide +kernel
theorem dX0_insert_63 : decode cX0_insert 63 = .ok (.invokevirtual 76, 3) := by decide +kernel
theorem dX0_insert_66 : decode cX0_insert 66 = .ok (.return_, 1) := by decide +kernel
theorem dX0_update_0 : decode cX0_update 0 = .ok (.iload_n 1, 1) := by decide +kernel
theorem dX0_update_1 : decode cX0_update 1 = .ok (.invokestatic 44, 3) := by decide +kernel
theorem dX0_update_4 : decode cX0_update 4 = .ok (.ifCond .ne 13, 3) := by decide +kernel
theorem dX0_update_7 : decode cX0_update 7 = .ok (.new 48, 3) := by decide +kernel
theorem dX0_update_10 : decode cX0_update 10 = .ok (.dup, 1) := by decide +kernel
theorem dX0_update_11 : decode cX0_update 11 = .ok (.ldc 50, 2) := by decide +kernel
theorem dX0_update_13 : decode cX0_update 13 = .ok (.invokespecial 52, 3) := by decide +kernel
theorem dX0_update_16 : decode cX0_update 16 = .ok (.athrow, 1) := by decide +kernel
theorem dX0_update_17 : decode cX0_update 17 = .ok (.aload_n 0, 1) := by decide +kernel
theorem dX0_update_18 : decode cX0_update 18 = .ok (.iload_n 2, 1) := by decide +kernel
theorem dX0_update_19 : decode cX0_update 19 = .ok (.iload_n 3, 1) := by decide +kernel
theorem dX0_update_20 : decode cX0_update 20 = .ok (.invokevirtual 55, 3) := by decide +kernel
theorem dX0_update_23 : decode cX0_update 23 = .ok (.ifCond .ne 13, 3) := by decide +kernel
theorem dX0_update_26 : decode cX0_update 26 = .ok (.new 59, 3) := by decide +kernel
theorem dX0_update_29 : decode cX0_update 29 = .ok (.dup, 1) := by decide +kernel
theorem dX0_update_30 : decode cX0_update 30 = .ok (.ldc 61, 2) := by decide +kernel
theorem dX0_update_32 : decode cX0_update 32 = .ok (.invokespecial 63, 3) := by decide +kernel
theorem dX0_update_35 : decode cX0_update 35 = .ok (.athrow, 1) := by decide +kernel
theorem dX0_update_36 : decode cX0_update 36 = .ok (.aload_n 0, 1) := by decide +kernel
theorem dX0_update_37 : decode cX0_update 37 = .ok (.iload_n 1, 1) := by decide +kernel
theorem dX0_update_38 : decode cX0_update 38 = .ok (.invokevirtual 64, 3) := by decide +kernel
theorem dX0_update_41 : decode cX0_update 41 = .ok (.ifCond .ne 13, 3) := by decide +kernel
theorem dX0_update_44 : decode cX0_update 44 = .ok (.new 80, 3) := by decide +kernel
theorem dX0_update_47 : decode cX0_update 47 = .ok (.dup, 1) := by decide +kernel
theorem dX0_update_48 : decode cX0_update 48 = .ok (.ldc 82, 2) := by decide +kernel
theorem dX0_update_50 : decode cX0_update 50 = .ok (.invokespecial 84, 3) := by decide +kernel
theorem dX0_update_53 : decode cX0_update 53 = .ok (.athrow, 1) := by decide +kernel
theorem dX0_update_54 : decode cX0_update 54 = .ok (.aload_n 0, 1) := by decide +kernel
theorem dX0_update_55 : decode cX0_update 55 = .ok (.iload_n 1, 1) := by decide +kernel
theorem dX0_update_56 : decode cX0_update 56 = .ok (.iload_n 2, 1) := by decide +kernel
theorem dX0_update_57 : decode cX0_update 57 = .ok (.iload_n 3, 1) := by decide +kernel
theorem dX0_update_58 : decode cX0_update 58 = .ok (.invokevirtual 72, 3) := by decide +kernel
theorem dX0_update_61 : decode cX0_update 61 = .ok (.aload_n 0, 1) := by decide +kernel
theorem dX0_update_62 : decode cX0_update 62 = .ok (.iload_n 1, 1) := by decide +kernel
theorem dX0_update_63 : decode cX0_update 63 = .ok (.invokevirtual 76, 3) := by decide +kernel
theorem dX0_update_66 : decode cX0_update 66 = .ok (.return_, 1) := by decide +kernel
theorem dX0_delete_0 : decode cX0_delete 0 = .ok (.iload_n 1, 1) := by decide +kernel
theorem dX0_delete_1 : decode cX0_delete 1 = .ok (.invokestatic 44, 3) := by decide +kernel
theorem dX0_delete_4 : decode cX0_delete 4 = .ok (.ifCond .ne 13, 3) := by decide +kernel
theorem dX0_delete_7 : decode cX0_delete 7 = .ok (.new 48, 3) := by decide +kernel
theorem dX0_delete_10 : decode cX0_delete 10 = .ok (.dup, 1) := by decide +kernel
theorem dX0_delete_11 : decode cX0_delete 11 = .ok (.ldc 50, 2) := by decide +kernel
theorem dX0_delete_13 : decode cX0_delete 13 = .ok (.invokespecial 52, 3) := by decide +kernel
theorem dX0_delete_16 : decode cX0_delete 16 = .ok (.athrow, 1) := by decide +kernel
theorem dX0_delete_17 : decode cX0_delete 17 = .ok (.aload_n 0, 1) := by decide +kernel
theorem dX0_delete_18 : decode cX0_delete 18 = .ok (.iload_n 1, 1) := by decide +kernel
theorem dX0_delete_19 : decode cX0_delete 19 = .ok (.invokevirtual 64, 3) := by decide +kernel
theorem dX0_delete_22 : decode cX0_delete 22 = .ok (.ifCond .ne 13, 3) := by decide +kernel
theorem dX0_delete_25 : decode cX0_delete 25 = .ok (.new 80, 3) := by decide +kernel
theorem dX0_delete_28 : decode cX0_delete 28 = .ok (.dup, 1) := by decide +kernel
theorem dX0_delete_29 : decode cX0_delete 29 = .ok (.ldc 82, 2) := by decide +kernel
theorem dX0_delete_31 : decode cX0_delete 31 = .ok (.invokespecial 84, 3) := by decide +kernel
theorem dX0_delete_34 : decode cX0_delete 34 = .ok (.athrow, 1) := by decide +kernel
theorem dX0_delete_35 : decode cX0_delete 35 = .ok (.aload_n 0, 1) := by decide +kernel
theorem dX0_delete_36 : decode cX0_delete 36 = .ok (.iload_n 1, 1) := by decide +kernel
theorem dX0_delete_37 : decode cX0_delete 37 = .ok (.invokevirtual 85, 3) := by decide +kernel
theorem dX0_delete_40 : decode cX0_delete 40 = .ok (.istore_n 2, 1) := by decide +kernel
theorem dX0_delete_41 : decode cX0_delete 41 = .ok (.aload_n 0, 1) := by decide +kernel
theorem dX0_delete_42 : decode cX0_delete 42 = .ok (.iload_n 1, 1) := by decide +kernel
theorem dX0_delete_43 : decode cX0_delete 43 = .ok (.invokevirtual 89, 3) := by decide +kernel
theorem dX0_delete_46 : decode cX0_delete 46 = .ok (.aload_n 0, 1) := by decide +kernel
theorem dX0_delete_47 : decode cX0_delete 47 = .ok (.iload_n 1, 1) := by decide +kernel
theorem dX0_delete_48 : decode cX0_delete 48 = .ok (.invokevirtual 76, 3) := by decide +kernel
theorem dX0_delete_51 : decode cX0_delete 51 = .ok (.iload_n 2, 1) := by decide +kernel
theorem dX0_delete_52 : decode cX0_delete 52 = .ok (.ireturn, 1) := by decide +kernel
theorem dX0_rekey_0 : decode cX0_rekey 0 = .ok (.iload_n 1, 1) := by decide +kernel
theorem dX0_rekey_1 : decode cX0_rekey 1 = .ok (.invokestatic 44, 3) := by decide +kernel
theorem dX0_rekey_4 : decode cX0_rekey 4 = .ok (.ifCond .eq 10, 3) := by decide +kernel
theorem dX0_rekey_7 : decode cX0_rekey 7 = .ok (.iload_n 2, 1) := by decide +kernel
theorem dX0_rekey_8 : decode cX0_rekey 8 = .ok (.invokestatic 44, 3) := by decide +kernel
theorem dX0_rekey_11 : decode cX0_rekey 11 = .ok (.ifCond .ne 13, 3) := by decide +kernel
theorem dX0_rekey_14 : decode cX0_rekey 14 = .ok (.new 48, 3) := by decide +kernel
theorem dX0_rekey_17 : decode cX0_rekey 17 = .ok (.dup, 1) := by decide +kernel
theorem dX0_rekey_18 : decode cX0_rekey 18 = .ok (.ldc 50, 2) := by decide +kernel
theorem dX0_rekey_20 : decode cX0_rekey 20 = .ok (.invokespecial 52, 3) := by decide +kernel
theorem dX0_rekey_23 : decode cX0_rekey 23 = .ok (.athrow, 1) := by decide +kernel
theorem dX0_rekey_24 : decode cX0_rekey 24 = .ok (.iload_n 1, 1) := by decide +kernel
theorem dX0_rekey_25 : decode cX0_rekey 25 = .ok (.iload_n 2, 1) := by decide +kernel
theorem dX0_rekey_26 : decode cX0_rekey 26 = .ok (.if_icmp .ne 13, 3) := by decide +kernel
theorem dX0_rekey_29 : decode cX0_rekey 29 = .ok (.new 59, 3) := by decide +kernel
theorem dX0_rekey_32 : decode cX0_rekey 32 = .ok (.dup, 1) := by decide +kernel
theorem dX0_rekey_33 : decode cX0_rekey 33 = .ok (.ldc 92, 2) := by decide +kernel
theorem dX0_rekey_35 : decode cX0_rekey 35 = .ok (.invokespecial 63, 3) := by decide +kernel
theorem dX0_rekey_38 : decode cX0_rekey 38 = .ok (.athrow, 1) := by decide +kernel
theorem dX0_rekey_39 : decode cX0_rekey 39 = .ok (.aload_n 0, 1) := by decide +kernel
theorem dX0_rekey_40 : decode cX0_rekey 40 = .ok (.iload_n 1, 1) := by decide +kernel
theorem dX0_rekey_41 : decode cX0_rekey 41 = .ok (.invokevirtual 64, 3) := by decide +kernel
theorem dX0_rekey_44 : decode cX0_rekey 44 = .ok (.ifCond .ne 13, 3) := by decide +kernel
theorem dX0_rekey_47 : decode cX0_rekey 47 = .ok (.new 80, 3) := by decide +kernel
theorem dX0_rekey_50 : decode cX0_rekey 50 = .ok (.dup, 1) := by decide +kernel
theorem dX0_rekey_51 : decode cX0_rekey 51 = .ok (.ldc 94, 2) := by decide +kernel
theorem dX0_rekey_53 : decode cX0_rekey 53 = .ok (.invokespecial 84, 3) := by decide +kernel
theorem dX0_rekey_56 : decode cX0_rekey 56 = .ok (.athrow, 1) := by decide +kernel
theorem dX0_rekey_57 : decode cX0_rekey 57 = .ok (.aload_n 0, 1) := by decide +kernel
theorem dX0_rekey_58 : decode cX0_rekey 58 = .ok (.iload_n 2, 1) := by decide +kernel
theorem dX0_rekey_59 : decode cX0_rekey 59 = .ok (.invokevirtual 64, 3) := by decide +kernel
theorem dX0_rekey_62 : decode cX0_rekey 62 = .ok (.ifCond .eq 13, 3) := by decide +kernel
theorem dX0_rekey_65 : decode cX0_rekey 65 = .ok (.new 67, 3) := by decide +kernel
theorem dX0_rekey_68 : decode cX0_rekey 68 = .ok (.dup, 1) := by decide +kernel
theorem dX0_rekey_69 : decode cX0_rekey 69 = .ok (.ldc 96, 2) := by decide +kernel
theorem dX0_rekey_71 : decode cX0_rekey 71 = .ok (.invokespecial 71, 3) := by decide +kernel
theorem dX0_rekey_74 : decode cX0_rekey 74 = .ok (.athrow, 1) := by decide +kernel
theorem dX0_rekey_75 : decode cX0_rekey 75 = .ok (.aload_n 0, 1) := by decide +kernel
theorem dX0_rekey_76 : decode cX0_rekey 76 = .ok (.iload_n 2, 1) := by decide +kernel
theorem dX0_rekey_77 : decode cX0_rekey 77 = .ok (.aload_n 0, 1) := by decide +kernel
theorem dX0_rekey_78 : decode cX0_rekey 78 = .ok (.getfield 9, 3) := by decide +kernel
theorem dX0_rekey_81 : decode cX0_rekey 81 = .ok (.iload_n 1, 1) := by decide +kernel
theorem dX0_rekey_82 : decode cX0_rekey 82 = .ok (.iaload, 1) := by decide +kernel
theorem dX0_rekey_83 : decode cX0_rekey 83 = .ok (.aload_n 0, 1) := by decide +kernel
theorem dX0_rekey_84 : decode cX0_rekey 84 = .ok (.getfield 13, 3) := by decide +kernel
theorem dX0_rekey_87 : decode cX0_rekey 87 = .ok (.iload_n 1, 1) := by decide +kernel
theorem dX0_rekey_88 : decode cX0_rekey 88 = .ok (.iaload, 1) := by decide +kernel
theorem dX0_rekey_89 : decode cX0_rekey 89 = .ok (.invokevirtual 72, 3) := by decide +kernel
theorem dX0_rekey_92 : decode cX0_rekey 92 = .ok (.aload_n 0, 1) := by decide +kernel
theorem dX0_rekey_93 : decode cX0_rekey 93 = .ok (.iload_n 1, 1) := by decide +kernel
theorem dX0_rekey_94 : decode cX0_rekey 94 = .ok (.invokevirtual 89, 3) := by decide +kernel
theorem dX0_rekey_97 : decode cX0_rekey 97 = .ok (.aload_n 0, 1) := by decide +kernel
theorem dX0_rekey_98 : decode cX0_rekey 98 = .ok (.iload_n 1, 1) := by decide +kernel
theorem dX0_rekey_99 : decode cX0_rekey 99 = .ok (.iload_n 2, 1) := by decide +kernel
theorem dX0_rekey_100 : decode cX0_rekey 100 = .ok (.invokestatic 98, 3) := by decide +kernel
theorem dX0_rekey_103 : decode cX0_rekey 103 = .ok (.invokevirtual 76, 3) := by decide +kernel
theorem dX0_rekey_106 : decode cX0_rekey 106 = .ok (.aload_n 0, 1) := by decide +kernel
theorem dX0_rekey_107 : decode cX0_rekey 107 = .ok (.iload_n 1, 1) := by decide +kernel
theorem dX0_rekey_108 : decode cX0_rekey 108 = .ok (.iload_n 2, 1) := by decide +kernel
theorem dX0_rekey_109 : decode cX0_rekey 109 = .ok (.invokestatic 104, 3) := by decide +kernel
theorem dX0_rekey_112 : decode cX0_rekey 112 = .ok (.invokevirtual 76, 3) := by decide +kernel
theorem dX0_rekey_115 : decode cX0_rekey 115 = .ok (.return_, 1) := by decide +kernel
theorem dX0_start_0 : decode cX0_start 0 = .ok (.iload_n 1, 1) := by decide +kernel
theorem dX0_start_1 : decode cX0_start 1 = .ok (.iconst 0, 1) := by decide +kernel
theorem dX0_start_2 : decode cX0_start 2 = .ok (.iconst 2, 1) := by decide +kernel
theorem dX0_start_3 : decode cX0_start 3 = .ok (.invokestatic 107, 3) := by decide +kernel
theorem dX0_start_6 : decode cX0_start 6 = .ok (.ifCond .eq 14, 3) := by decide +kernel
theorem dX0_start_9 : decode cX0_start 9 = .ok (.iload_n 2, 1) := by decide +kernel
theorem dX0_start_10 : decode cX0_start 10 = .ok (.iconst 0, 1) := by decide +kernel
theorem dX0_start_11 : decode cX0_start 11 = .ok (.sipush 999, 3) := by decide +kernel
theorem dX0_start_14 : decode cX0_start 14 = .ok (.invokestatic 107, 3) := by decide +kernel
theorem dX0_start_17 : decode cX0_start 17 = .ok (.ifCond .ne 13, 3) := by decide +kernel
theorem dX0_start_20 : decode cX0_start 20 = .ok (.new 59, 3) := by decide +kernel
theorem dX0_start_23 : decode cX0_start 23 = .ok (.dup, 1) := by decide +kernel
theorem dX0_start_24 : decode cX0_start 24 = .ok (.ldc 111, 2) := by decide +kernel
theorem dX0_start_26 : decode cX0_start 26 = .ok (.invokespecial 63, 3) := by decide +kernel
theorem dX0_start_29 : decode cX0_start 29 = .ok (.athrow, 1) := by decide +kernel
theorem dX0_start_30 : decode cX0_start 30 = .ok (.aload_n 0, 1) := by decide +kernel
theorem dX0_start_31 : decode cX0_start 31 = .ok (.getfield 34, 3) := by decide +kernel
theorem dX0_start_34 : decode cX0_start 34 = .ok (.ifCond .eq 13, 3) := by decide +kernel
theorem dX0_start_37 : decode cX0_start 37 = .ok (.new 67, 3) := by decide +kernel
theorem dX0_start_40 : decode cX0_start 40 = .ok (.dup, 1) := by decide +kernel
theorem dX0_start_41 : decode cX0_start 41 = .ok (.ldc 113, 2) := by decide +kernel
theorem dX0_start_43 : decode cX0_start 43 = .ok (.invokespecial 71, 3) := by decide +kernel
theorem dX0_start_46 : decode cX0_start 46 = .ok (.athrow, 1) := by decide +kernel
theorem dX0_start_47 : decode cX0_start 47 = .ok (.aload_n 0, 1) := by decide +kernel
theorem dX0_start_48 : decode cX0_start 48 = .ok (.iload_n 1, 1) := by decide +kernel
theorem dX0_start_49 : decode cX0_start 49 = .ok (.putfield 115, 3) := by decide +kernel
theorem dX0_start_52 : decode cX0_start 52 = .ok (.aload_n 0, 1) := by decide +kernel
theorem dX0_start_53 : decode cX0_start 53 = .ok (.iload_n 2, 1) := by decide +kernel
theorem dX0_start_54 : decode cX0_start 54 = .ok (.putfield 118, 3) := by decide +kernel
theorem dX0_start_57 : decode cX0_start 57 = .ok (.aload_n 0, 1) := by decide +kernel
theorem dX0_start_58 : decode cX0_start 58 = .ok (.iconst 0, 1) := by decide +kernel
theorem dX0_start_59 : decode cX0_start 59 = .ok (.putfield 121, 3) := by decide +kernel
theorem dX0_start_62 : decode cX0_start 62 = .ok (.aload_n 0, 1) := by decide +kernel
theorem dX0_start_63 : decode cX0_start 63 = .ok (.iconst 1, 1) := by decide +kernel
theorem dX0_start_64 : decode cX0_start 64 = .ok (.putfield 34, 3) := by decide +kernel
theorem dX0_start_67 : decode cX0_start 67 = .ok (.return_, 1) := by decide +kernel
theorem dX0_setPace_0 : decode cX0_setPace 0 = .ok (.iload_n 1, 1) := by decide +kernel
theorem dX0_setPace_1 : decode cX0_setPace 1 = .ok (.iconst 1, 1) := by decide +kernel
theorem dX0_setPace_2 : decode cX0_setPace 2 = .ok (.bipush 40, 2) := by decide +kernel
theorem dX0_setPace_4 : decode cX0_setPace 4 = .ok (.invokestatic 107, 3) := by decide +kernel
theorem dX0_setPace_7 : decode cX0_setPace 7 = .ok (.ifCond .eq 13, 3) := by decide +kernel
theorem dX0_setPace_10 : decode cX0_setPace 10 = .ok (.iload_n 2, 1) := by decide +kernel
theorem dX0_setPace_11 : decode cX0_setPace 11 = .ok (.iconst 0, 1) := by decide +kernel
theorem dX0_setPace_12 : decode cX0_setPace 12 = .ok (.bipush 100, 2) := by decide +kernel
theorem dX0_setPace_14 : decode cX0_setPace 14 = .ok (.invokestatic 107, 3) := by decide +kernel
theorem dX0_setPace_17 : decode cX0_setPace 17 = .ok (.ifCond .ne 13, 3) := by decide +kernel
theorem dX0_setPace_20 : decode cX0_setPace 20 = .ok (.new 59, 3) := by decide +kernel
theorem dX0_setPace_23 : decode cX0_setPace 23 = .ok (.dup, 1) := by decide +kernel
theorem dX0_setPace_24 : decode cX0_setPace 24 = .ok (.ldc 124, 2) := by decide +kernel
theorem dX0_setPace_26 : decode cX0_setPace 26 = .ok (.invokespecial 63, 3) := by decide +kernel
theorem dX0_setPace_29 : decode cX0_setPace 29 = .ok (.athrow, 1) := by decide +kernel
theorem dX0_setPace_30 : decode cX0_setPace 30 = .ok (.aload_n 0, 1) := by decide +kernel
theorem dX0_setPace_31 : decode cX0_setPace 31 = .ok (.iload_n 1, 1) := by decide +kernel
theorem dX0_setPace_32 : decode cX0_setPace 32 = .ok (.putfield 38, 3) := by decide +kernel
theorem dX0_setPace_35 : decode cX0_setPace 35 = .ok (.aload_n 0, 1) := by decide +kernel
theorem dX0_setPace_36 : decode cX0_setPace 36 = .ok (.iload_n 2, 1) := by decide +kernel
theorem dX0_setPace_37 : decode cX0_setPace 37 = .ok (.putfield 41, 3) := by decide +kernel
theorem dX0_setPace_40 : decode cX0_setPace 40 = .ok (.return_, 1) := by decide +kernel
theorem dX0_tick_0 : decode cX0_tick 0 = .ok (.iload_n 1, 1) := by decide +kernel
theorem dX0_tick_1 : decode cX0_tick 1 = .ok (.iconst 0, 1) := by decide +kernel
theorem dX0_tick_2 : decode cX0_tick 2 = .ok (.sipush 1000, 3) := by decide +kernel
theorem dX0_tick_5 : decode cX0_tick 5 = .ok (.invokestatic 107, 3) := by decide +kernel
theorem dX0_tick_8 : decode cX0_tick 8 = .ok (.ifCond .ne 13, 3) := by decide +kernel
theorem dX0_tick_11 : decode cX0_tick 11 = .ok (.new 59, 3) := by decide +kernel
theorem dX0_tick_14 : decode cX0_tick 14 = .ok (.dup, 1) := by decide +kernel
theorem dX0_tick_15 : decode cX0_tick 15 = .ok (.ldc 126, 2) := by decide +kernel
theorem dX0_tick_17 : decode cX0_tick 17 = .ok (.invokespecial 63, 3) := by decide +kernel
theorem dX0_tick_20 : decode cX0_tick 20 = .ok (.athrow, 1) := by decide +kernel
theorem dX0_tick_21 : decode cX0_tick 21 = .ok (.aload_n 0, 1) := by decide +kernel
theorem dX0_tick_22 : decode cX0_tick 22 = .ok (.getfield 34, 3) := by decide +kernel
theorem dX0_tick_25 : decode cX0_tick 25 = .ok (.iconst 1, 1) := by decide +kernel
theorem dX0_tick_26 : decode cX0_tick 26 = .ok (.if_icmp .eq 13, 3) := by decide +kernel
theorem dX0_tick_29 : decode cX0_tick 29 = .ok (.new 67, 3) := by decide +kernel
theorem dX0_tick_32 : decode cX0_tick 32 = .ok (.dup, 1) := by decide +kernel
theorem dX0_tick_33 : decode cX0_tick 33 = .ok (.ldc 128, 2) := by decide +kernel
theorem dX0_tick_35 : decode cX0_tick 35 = .ok (.invokespecial 71, 3) := by decide +kernel
theorem dX0_tick_38 : decode cX0_tick 38 = .ok (.athrow, 1) := by decide +kernel
theorem dX0_tick_39 : decode cX0_tick 39 = .ok (.iload_n 1, 1) := by decide +kernel
theorem dX0_tick_40 : decode cX0_tick 40 = .ok (.aload_n 0, 1) := by decide +kernel
theorem dX0_tick_41 : decode cX0_tick 41 = .ok (.getfield 41, 3) := by decide +kernel
theorem dX0_tick_44 : decode cX0_tick 44 = .ok (.if_icmp .le 5, 3) := by decide +kernel
theorem dX0_tick_47 : decode cX0_tick 47 = .ok (.iconst 0, 1) := by decide +kernel
theorem dX0_tick_48 : decode cX0_tick 48 = .ok (.ireturn, 1) := by decide +kernel
theorem dX0_tick_49 : decode cX0_tick 49 = .ok (.aload_n 0, 1) := by decide +kernel
theorem dX0_tick_50 : decode cX0_tick 50 = .ok (.getfield 121, 3) := by decide +kernel
theorem dX0_tick_53 : decode cX0_tick 53 = .ok (.bipush 40, 2) := by decide +kernel
theorem dX0_tick_55 : decode cX0_tick 55 = .ok (.if_icmp .ge 8, 3) := by decide +kernel
theorem dX0_tick_58 : decode cX0_tick 58 = .ok (.aload_n 0, 1) := by decide +kernel
theorem dX0_tick_59 : decode cX0_tick 59 = .ok (.invokevirtual 130, 3) := by decide +kernel
theorem dX0_tick_62 : decode cX0_tick 62 = .ok (.ireturn, 1) := by decide +kernel
theorem dX0_tick_63 : decode cX0_tick 63 = .ok (.aload_n 0, 1) := by decide +kernel
theorem dX0_tick_64 : decode cX0_tick 64 = .ok (.aload_n 0, 1) := by decide +kernel
theorem dX0_tick_65 : decode cX0_tick 65 = .ok (.getfield 38, 3) := by decide +kernel
theorem dX0_tick_68 : decode cX0_tick 68 = .ok (.aload_n 0, 1) := by decide +kernel
theorem dX0_tick_69 : decode cX0_tick 69 = .ok (.getfield 134, 3) := by decide +kernel
theorem dX0_tick_72 : decode cX0_tick 72 = .ok (.invokestatic 98, 3) := by decide +kernel
theorem dX0_tick_75 : decode cX0_tick 75 = .ok (.invokevirtual 137, 3) := by decide +kernel
theorem dX0_tick_78 : decode cX0_tick 78 = .ok (.ireturn, 1) := by decide +kernel
theorem dX0_cutOver_0 : decode cX0_cutOver 0 = .ok (.iload_n 1, 1) := by decide +kernel
theorem dX0_cutOver_1 : decode cX0_cutOver 1 = .ok (.iconst 0, 1) := by decide +kernel
theorem dX0_cutOver_2 : decode cX0_cutOver 2 = .ok (.sipush 1000, 3) := by decide +kernel
theorem dX0_cutOver_5 : decode cX0_cutOver 5 = .ok (.invokestatic 107, 3) := by decide +kernel
theorem dX0_cutOver_8 : decode cX0_cutOver 8 = .ok (.ifCond .ne 13, 3) := by decide +kernel
theorem dX0_cutOver_11 : decode cX0_cutOver 11 = .ok (.new 59, 3) := by decide +kernel
theorem dX0_cutOver_14 : decode cX0_cutOver 14 = .ok (.dup, 1) := by decide +kernel
theorem dX0_cutOver_15 : decode cX0_cutOver 15 = .ok (.ldc 140, 2) := by decide +kernel
theorem dX0_cutOver_17 : decode cX0_cutOver 17 = .ok (.invokespecial 63, 3) := by decide +kernel
theorem dX0_cutOver_20 : decode cX0_cutOver 20 = .ok (.athrow, 1) := by decide +kernel
theorem dX0_cutOver_21 : decode cX0_cutOver 21 = .ok (.aload_n 0, 1) := by decide +kernel
theorem dX0_cutOver_22 : decode cX0_cutOver 22 = .ok (.getfield 34, 3) := by decide +kernel
theorem dX0_cutOver_25 : decode cX0_cutOver 25 = .ok (.iconst 1, 1) := by decide +kernel
theorem dX0_cutOver_26 : decode cX0_cutOver 26 = .ok (.if_icmp .ne 20, 3) := by decide +kernel
theorem dX0_cutOver_29 : decode cX0_cutOver 29 = .ok (.aload_n 0, 1) := by decide +kernel
theorem dX0_cutOver_30 : decode cX0_cutOver 30 = .ok (.getfield 121, 3) := by decide +kernel
theorem dX0_cutOver_33 : decode cX0_cutOver 33 = .ok (.bipush 40, 2) := by decide +kernel
theorem dX0_cutOver_35 : decode cX0_cutOver 35 = .ok (.if_icmp .lt 11, 3) := by decide +kernel
theorem dX0_cutOver_38 : decode cX0_cutOver 38 = .ok (.aload_n 0, 1) := by decide +kernel
theorem dX0_cutOver_39 : decode cX0_cutOver 39 = .ok (.getfield 134, 3) := by decide +kernel
theorem dX0_cutOver_42 : decode cX0_cutOver 42 = .ok (.iload_n 1, 1) := by decide +kernel
theorem dX0_cutOver_43 : decode cX0_cutOver 43 = .ok (.if_icmp .le 13, 3) := by decide +kernel
theorem dX0_cutOver_46 : decode cX0_cutOver 46 = .ok (.new 67, 3) := by decide +kernel
theorem dX0_cutOver_49 : decode cX0_cutOver 49 = .ok (.dup, 1) := by decide +kernel
theorem dX0_cutOver_50 : decode cX0_cutOver 50 = .ok (.ldc 142, 2) := by decide +kernel
theorem dX0_cutOver_52 : decode cX0_cutOver 52 = .ok (.invokespecial 71, 3) := by decide +kernel
theorem dX0_cutOver_55 : decode cX0_cutOver 55 = .ok (.athrow, 1) := by decide +kernel
theorem dX0_cutOver_56 : decode cX0_cutOver 56 = .ok (.aload_n 0, 1) := by decide +kernel
theorem dX0_cutOver_57 : decode cX0_cutOver 57 = .ok (.aload_n 0, 1) := by decide +kernel
theorem dX0_cutOver_58 : decode cX0_cutOver 58 = .ok (.getfield 134, 3) := by decide +kernel
theorem dX0_cutOver_61 : decode cX0_cutOver 61 = .ok (.invokevirtual 137, 3) := by decide +kernel
theorem dX0_cutOver_64 : decode cX0_cutOver 64 = .ok (.istore_n 2, 1) := by decide +kernel
theorem dX0_cutOver_65 : decode cX0_cutOver 65 = .ok (.aload_n 0, 1) := by decide +kernel
theorem dX0_cutOver_66 : decode cX0_cutOver 66 = .ok (.iconst 2, 1) := by decide +kernel
theorem dX0_cutOver_67 : decode cX0_cutOver 67 = .ok (.putfield 34, 3) := by decide +kernel
theorem dX0_cutOver_70 : decode cX0_cutOver 70 = .ok (.iload_n 2, 1) := by decide +kernel
theorem dX0_cutOver_71 : decode cX0_cutOver 71 = .ok (.ireturn, 1) := by decide +kernel
theorem dX0_undo_0 : decode cX0_undo 0 = .ok (.aload_n 0, 1) := by decide +kernel
theorem dX0_undo_1 : decode cX0_undo 1 = .ok (.getfield 34, 3) := by decide +kernel
theorem dX0_undo_4 : decode cX0_undo 4 = .ok (.iconst 2, 1) := by decide +kernel
theorem dX0_undo_5 : decode cX0_undo 5 = .ok (.if_icmp .eq 13, 3) := by decide +kernel
theorem dX0_undo_8 : decode cX0_undo 8 = .ok (.new 67, 3) := by decide +kernel
theorem dX0_undo_11 : decode cX0_undo 11 = .ok (.dup, 1) := by decide +kernel
theorem dX0_undo_12 : decode cX0_undo 12 = .ok (.ldc 144, 2) := by decide +kernel
theorem dX0_undo_14 : decode cX0_undo 14 = .ok (.invokespecial 71, 3) := by decide +kernel
theorem dX0_undo_17 : decode cX0_undo 17 = .ok (.athrow, 1) := by decide +kernel
theorem dX0_undo_18 : decode cX0_undo 18 = .ok (.aload_n 0, 1) := by decide +kernel
theorem dX0_undo_19 : decode cX0_undo 19 = .ok (.iconst 1, 1) := by decide +kernel
theorem dX0_undo_20 : decode cX0_undo 20 = .ok (.putfield 34, 3) := by decide +kernel
theorem dX0_undo_23 : decode cX0_undo 23 = .ok (.return_, 1) := by decide +kernel
theorem dX0_finish_0 : decode cX0_finish 0 = .ok (.aload_n 0, 1) := by decide +kernel
theorem dX0_finish_1 : decode cX0_finish 1 = .ok (.getfield 34, 3) := by decide +kernel
theorem dX0_finish_4 : decode cX0_finish 4 = .ok (.iconst 2, 1) := by decide +kernel
theorem dX0_finish_5 : decode cX0_finish 5 = .ok (.if_icmp .eq 13, 3) := by decide +kernel
theorem dX0_finish_8 : decode cX0_finish 8 = .ok (.new 67, 3) := by decide +kernel
theorem dX0_finish_11 : decode cX0_finish 11 = .ok (.dup, 1) := by decide +kernel
theorem dX0_finish_12 : decode cX0_finish 12 = .ok (.ldc 144, 2) := by decide +kernel
theorem dX0_finish_14 : decode cX0_finish 14 = .ok (.invokespecial 71, 3) := by decide +kernel
theorem dX0_finish_17 : decode cX0_finish 17 = .ok (.athrow, 1) := by decide +kernel
theorem dX0_finish_18 : decode cX0_finish 18 = .ok (.aload_n 0, 1) := by decide +kernel
theorem dX0_finish_19 : decode cX0_finish 19 = .ok (.invokevirtual 146, 3) := by decide +kernel
theorem dX0_finish_22 : decode cX0_finish 22 = .ok (.istore_n 1, 1) := by decide +kernel
theorem dX0_finish_23 : decode cX0_finish 23 = .ok (.aload_n 0, 1) := by decide +kernel
theorem dX0_finish_24 : decode cX0_finish 24 = .ok (.invokevirtual 149, 3) := by decide +kernel
theorem dX0_finish_27 : decode cX0_finish 27 = .ok (.iload_n 1, 1) := by decide +kernel
theorem dX0_finish_28 : decode cX0_finish 28 = .ok (.ireturn, 1) := by decide +kernel
theorem dX0_giveUp_0 : decode cX0_giveUp 0 = .ok (.aload_n 0, 1) := by decide +kernel
theorem dX0_giveUp_1 : decode cX0_giveUp 1 = .ok (.getfield 34, 3) := by decide +kernel
theorem dX0_giveUp_4 : decode cX0_giveUp 4 = .ok (.iconst 1, 1) := by decide +kernel
theorem dX0_giveUp_5 : decode cX0_giveUp 5 = .ok (.if_icmp .eq 13, 3) := by decide +kernel
theorem dX0_giveUp_8 : decode cX0_giveUp 8 = .ok (.new 67, 3) := by decide +kernel
theorem dX0_giveUp_11 : decode cX0_giveUp 11 = .ok (.dup, 1) := by decide +kernel
theorem dX0_giveUp_12 : decode cX0_giveUp 12 = .ok (.ldc 128, 2) := by decide +kernel
theorem dX0_giveUp_14 : decode cX0_giveUp 14 = .ok (.invokespecial 71, 3) := by decide +kernel
theorem dX0_giveUp_17 : decode cX0_giveUp 17 = .ok (.athrow, 1) := by decide +kernel
theorem dX0_giveUp_18 : decode cX0_giveUp 18 = .ok (.aload_n 0, 1) := by decide +kernel
theorem dX0_giveUp_19 : decode cX0_giveUp 19 = .ok (.invokevirtual 152, 3) := by decide +kernel
theorem dX0_giveUp_22 : decode cX0_giveUp 22 = .ok (.istore_n 1, 1) := by decide +kernel
theorem dX0_giveUp_23 : decode cX0_giveUp 23 = .ok (.aload_n 0, 1) := by decide +kernel
theorem dX0_giveUp_24 : decode cX0_giveUp 24 = .ok (.invokevirtual 149, 3) := by decide +kernel
theorem dX0_giveUp_27 : decode cX0_giveUp 27 = .ok (.iload_n 1, 1) := by decide +kernel
theorem dX0_giveUp_28 : decode cX0_giveUp 28 = .ok (.ireturn, 1) := by decide +kernel
theorem dX0_row_0 : decode cX0_row 0 = .ok (.iload_n 1, 1) := by decide +kernel
theorem dX0_row_1 : decode cX0_row 1 = .ok (.invokestatic 44, 3) := by decide +kernel
theorem dX0_row_4 : decode cX0_row 4 = .ok (.ifCond .ne 13, 3) := by decide +kernel
theorem dX0_row_7 : decode cX0_row 7 = .ok (.new 48, 3) := by decide +kernel
theorem dX0_row_10 : decode cX0_row 10 = .ok (.dup, 1) := by decide +kernel
theorem dX0_row_11 : decode cX0_row 11 = .ok (.ldc 50, 2) := by decide +kernel
theorem dX0_row_13 : decode cX0_row 13 = .ok (.invokespecial 52, 3) := by decide +kernel
theorem dX0_row_16 : decode cX0_row 16 = .ok (.athrow, 1) := by decide +kernel
theorem dX0_row_17 : decode cX0_row 17 = .ok (.aload_n 0, 1) := by decide +kernel
theorem dX0_row_18 : decode cX0_row 18 = .ok (.iload_n 1, 1) := by decide +kernel
theorem dX0_row_19 : decode cX0_row 19 = .ok (.invokevirtual 64, 3) := by decide +kernel
theorem dX0_row_22 : decode cX0_row 22 = .ok (.ifCond .eq 11, 3) := by decide +kernel
theorem dX0_row_25 : decode cX0_row 25 = .ok (.aload_n 0, 1) := by decide +kernel
theorem dX0_row_26 : decode cX0_row 26 = .ok (.iload_n 1, 1) := by decide +kernel
theorem dX0_row_27 : decode cX0_row 27 = .ok (.invokevirtual 85, 3) := by decide +kernel
theorem dX0_row_30 : decode cX0_row 30 = .ok (.goto 4, 3) := by decide +kernel
theorem dX0_row_33 : decode cX0_row 33 = .ok (.iconst (-1), 1) := by decide +kernel
theorem dX0_row_34 : decode cX0_row 34 = .ok (.ireturn, 1) := by decide +kernel
theorem dX0_rows_0 : decode cX0_rows 0 = .ok (.iconst 0, 1) := by decide +kernel
theorem dX0_rows_1 : decode cX0_rows 1 = .ok (.istore_n 1, 1) := by decide +kernel
theorem dX0_rows_2 : decode cX0_rows 2 = .ok (.iconst 0, 1) := by decide +kernel
theorem dX0_rows_3 : decode cX0_rows 3 = .ok (.istore_n 2, 1) := by decide +kernel
theorem dX0_rows_4 : decode cX0_rows 4 = .ok (.iload_n 2, 1) := by decide +kernel
theorem dX0_rows_5 : decode cX0_rows 5 = .ok (.bipush 40, 2) := by decide +kernel
theorem dX0_rows_7 : decode cX0_rows 7 = .ok (.if_icmp .ge 20, 3) := by decide +kernel
theorem dX0_rows_10 : decode cX0_rows 10 = .ok (.aload_n 0, 1) := by decide +kernel
theorem dX0_rows_11 : decode cX0_rows 11 = .ok (.iload_n 2, 1) := by decide +kernel
theorem dX0_rows_12 : decode cX0_rows 12 = .ok (.invokevirtual 64, 3) := by decide +kernel
theorem dX0_rows_15 : decode cX0_rows 15 = .ok (.ifCond .eq 6, 3) := by decide +kernel
theorem dX0_rows_18 : decode cX0_rows 18 = .ok (.iinc 1 1, 3) := by decide +kernel
theorem dX0_rows_21 : decode cX0_rows 21 = .ok (.iinc 2 1, 3) := by decide +kernel
theorem dX0_rows_24 : decode cX0_rows 24 = .ok (.goto (-20), 3) := by decide +kernel
theorem dX0_rows_27 : decode cX0_rows 27 = .ok (.iload_n 1, 1) := by decide +kernel
theorem dX0_rows_28 : decode cX0_rows 28 = .ok (.ireturn, 1) := by decide +kernel
theorem dX0_phase_0 : decode cX0_phase 0 = .ok (.aload_n 0, 1) := by decide +kernel
theorem dX0_phase_1 : decode cX0_phase 1 = .ok (.getfield 34, 3) := by decide +kernel
theorem dX0_phase_4 : decode cX0_phase 4 = .ok (.ireturn, 1) := by decide +kernel
theorem dX0_mark_0 : decode cX0_mark 0 = .ok (.aload_n 0, 1) := by decide +kernel
theorem dX0_mark_1 : decode cX0_mark 1 = .ok (.getfield 34, 3) := by decide +kernel
theorem dX0_mark_4 : decode cX0_mark 4 = .ok (.ifCond .ne 7, 3) := by decide +kernel
theorem dX0_mark_7 : decode cX0_mark 7 = .ok (.iconst (-1), 1) := by decide +kernel
theorem dX0_mark_8 : decode cX0_mark 8 = .ok (.goto 7, 3) := by decide +kernel
theorem dX0_mark_11 : decode cX0_mark 11 = .ok (.aload_n 0, 1) := by decide +kernel
theorem dX0_mark_12 : decode cX0_mark 12 = .ok (.getfield 121, 3) := by decide +kernel
theorem dX0_mark_15 : decode cX0_mark 15 = .ok (.ireturn, 1) := by decide +kernel
theorem dX0_notes_0 : decode cX0_notes 0 = .ok (.aload_n 0, 1) := by decide +kernel
theorem dX0_notes_1 : decode cX0_notes 1 = .ok (.getfield 134, 3) := by decide +kernel
theorem dX0_notes_4 : decode cX0_notes 4 = .ok (.ireturn, 1) := by decide +kernel
theorem dX0_shadow_0 : decode cX0_shadow 0 = .ok (.iload_n 1, 1) := by decide +kernel
theorem dX0_shadow_1 : decode cX0_shadow 1 = .ok (.invokestatic 44, 3) := by decide +kernel
theorem dX0_shadow_4 : decode cX0_shadow 4 = .ok (.ifCond .eq 10, 3) := by decide +kernel
theorem dX0_shadow_7 : decode cX0_shadow 7 = .ok (.iload_n 2, 1) := by decide +kernel
theorem dX0_shadow_8 : decode cX0_shadow 8 = .ok (.invokestatic 155, 3) := by decide +kernel
theorem dX0_shadow_11 : decode cX0_shadow 11 = .ok (.ifCond .ne 13, 3) := by decide +kernel
theorem dX0_shadow_14 : decode cX0_shadow 14 = .ok (.new 48, 3) := by decide +kernel
theorem dX0_shadow_17 : decode cX0_shadow 17 = .ok (.dup, 1) := by decide +kernel
theorem dX0_shadow_18 : decode cX0_shadow 18 = .ok (.ldc 158, 2) := by decide +kernel
theorem dX0_shadow_20 : decode cX0_shadow 20 = .ok (.invokespecial 52, 3) := by decide +kernel
theorem dX0_shadow_23 : decode cX0_shadow 23 = .ok (.athrow, 1) := by decide +kernel
theorem dX0_shadow_24 : decode cX0_shadow 24 = .ok (.aload_n 0, 1) := by decide +kernel
theorem dX0_shadow_25 : decode cX0_shadow 25 = .ok (.getfield 18, 3) := by decide +kernel
theorem dX0_shadow_28 : decode cX0_shadow 28 = .ok (.iload_n 2, 1) := by decide +kernel
theorem dX0_shadow_29 : decode cX0_shadow 29 = .ok (.aaload, 1) := by decide +kernel
theorem dX0_shadow_30 : decode cX0_shadow 30 = .ok (.iload_n 1, 1) := by decide +kernel
theorem dX0_shadow_31 : decode cX0_shadow 31 = .ok (.iaload, 1) := by decide +kernel
theorem dX0_shadow_32 : decode cX0_shadow 32 = .ok (.ireturn, 1) := by decide +kernel
theorem dX0_shadowRows_0 : decode cX0_shadowRows 0 = .ok (.iconst 0, 1) := by decide +kernel
theorem dX0_shadowRows_1 : decode cX0_shadowRows 1 = .ok (.istore_n 1, 1) := by decide +kernel
theorem dX0_shadowRows_2 : decode cX0_shadowRows 2 = .ok (.iconst 0, 1) := by decide +kernel
theorem dX0_shadowRows_3 : decode cX0_shadowRows 3 = .ok (.istore_n 2, 1) := by decide +kernel
theorem dX0_shadowRows_4 : decode cX0_shadowRows 4 = .ok (.iload_n 2, 1) := by decide +kernel
theorem dX0_shadowRows_5 : decode cX0_shadowRows 5 = .ok (.bipush 40, 2) := by decide +kernel
theorem dX0_shadowRows_7 : decode cX0_shadowRows 7 = .ok (.if_icmp .ge 20, 3) := by decide +kernel
theorem dX0_shadowRows_10 : decode cX0_shadowRows 10 = .ok (.aload_n 0, 1) := by decide +kernel
theorem dX0_shadowRows_11 : decode cX0_shadowRows 11 = .ok (.iload_n 2, 1) := by decide +kernel
theorem dX0_shadowRows_12 : decode cX0_shadowRows 12 = .ok (.invokevirtual 160, 3) := by decide +kernel
theorem dX0_shadowRows_15 : decode cX0_shadowRows 15 = .ok (.ifCond .eq 6, 3) := by decide +kernel
theorem dX0_shadowRows_18 : decode cX0_shadowRows 18 = .ok (.iinc 1 1, 3) := by decide +kernel
theorem dX0_shadowRows_21 : decode cX0_shadowRows 21 = .ok (.iinc 2 1, 3) := by decide +kernel
theorem dX0_shadowRows_24 : decode cX0_shadowRows 24 = .ok (.goto (-20), 3) := by decide +kernel
theorem dX0_shadowRows_27 : decode cX0_shadowRows 27 = .ok (.iload_n 1, 1) := by decide +kernel
theorem dX0_shadowRows_28 : decode cX0_shadowRows 28 = .ok (.ireturn, 1) := by decide +kernel
theorem dX0_isRefused_0 : decode cX0_isRefused 0 = .ok (.iload_n 1, 1) := by decide +kernel
theorem dX0_isRefused_1 : decode cX0_isRefused 1 = .ok (.invokestatic 44, 3) := by decide +kernel
theorem dX0_isRefused_4 : decode cX0_isRefused 4 = .ok (.ifCond .ne 13, 3) := by decide +kernel
theorem dX0_isRefused_7 : decode cX0_isRefused 7 = .ok (.new 48, 3) := by decide +kernel
theorem dX0_isRefused_10 : decode cX0_isRefused 10 = .ok (.dup, 1) := by decide +kernel
theorem dX0_isRefused_11 : decode cX0_isRefused 11 = .ok (.ldc 50, 2) := by decide +kernel
theorem dX0_isRefused_13 : decode cX0_isRefused 13 = .ok (.invokespecial 52, 3) := by decide +kernel
theorem dX0_isRefused_16 : decode cX0_isRefused 16 = .ok (.athrow, 1) := by decide +kernel
theorem dX0_isRefused_17 : decode cX0_isRefused 17 = .ok (.aload_n 0, 1) := by decide +kernel
theorem dX0_isRefused_18 : decode cX0_isRefused 18 = .ok (.getfield 21, 3) := by decide +kernel
theorem dX0_isRefused_21 : decode cX0_isRefused 21 = .ok (.iload_n 1, 1) := by decide +kernel
theorem dX0_isRefused_22 : decode cX0_isRefused 22 = .ok (.baload, 1) := by decide +kernel
theorem dX0_isRefused_23 : decode cX0_isRefused 23 = .ok (.ireturn, 1) := by decide +kernel
theorem dX0_behind_0 : decode cX0_behind 0 = .ok (.aload_n 0, 1) := by decide +kernel
theorem dX0_behind_1 : decode cX0_behind 1 = .ok (.getfield 34, 3) := by decide +kernel
theorem dX0_behind_4 : decode cX0_behind 4 = .ok (.ifCond .ne 5, 3) := by decide +kernel
theorem dX0_behind_7 : decode cX0_behind 7 = .ok (.iconst 0, 1) := by decide +kernel
theorem dX0_behind_8 : decode cX0_behind 8 = .ok (.ireturn, 1) := by decide +kernel
theorem dX0_behind_9 : decode cX0_behind 9 = .ok (.iconst 0, 1) := by decide +kernel
theorem dX0_behind_10 : decode cX0_behind 10 = .ok (.istore_n 1, 1) := by decide +kernel
theorem dX0_behind_11 : decode cX0_behind 11 = .ok (.iconst 0, 1) := by decide +kernel
theorem dX0_behind_12 : decode cX0_behind 12 = .ok (.istore_n 2, 1) := by decide +kernel
theorem dX0_behind_13 : decode cX0_behind 13 = .ok (.iload_n 2, 1) := by decide +kernel
theorem dX0_behind_14 : decode cX0_behind 14 = .ok (.bipush 40, 2) := by decide +kernel
theorem dX0_behind_16 : decode cX0_behind 16 = .ok (.if_icmp .ge 20, 3) := by decide +kernel
theorem dX0_behind_19 : decode cX0_behind 19 = .ok (.aload_n 0, 1) := by decide +kernel
theorem dX0_behind_20 : decode cX0_behind 20 = .ok (.iload_n 2, 1) := by decide +kernel
theorem dX0_behind_21 : decode cX0_behind 21 = .ok (.invokevirtual 163, 3) := by decide +kernel
theorem dX0_behind_24 : decode cX0_behind 24 = .ok (.ifCond .eq 6, 3) := by decide +kernel
theorem dX0_behind_27 : decode cX0_behind 27 = .ok (.iinc 1 1, 3) := by decide +kernel
theorem dX0_behind_30 : decode cX0_behind 30 = .ok (.iinc 2 1, 3) := by decide +kernel
theorem dX0_behind_33 : decode cX0_behind 33 = .ok (.goto (-20), 3) := by decide +kernel
theorem dX0_behind_36 : decode cX0_behind 36 = .ok (.iload_n 1, 1) := by decide +kernel
theorem dX0_behind_37 : decode cX0_behind 37 = .ok (.ireturn, 1) := by decide +kernel
theorem dX0_sum_0 : decode cX0_sum 0 = .ok (.iload_n 1, 1) := by decide +kernel
theorem dX0_sum_1 : decode cX0_sum 1 = .ok (.invokestatic 155, 3) := by decide +kernel
theorem dX0_sum_4 : decode cX0_sum 4 = .ok (.ifCond .ne 13, 3) := by decide +kernel
theorem dX0_sum_7 : decode cX0_sum 7 = .ok (.new 48, 3) := by decide +kernel
theorem dX0_sum_10 : decode cX0_sum 10 = .ok (.dup, 1) := by decide +kernel
theorem dX0_sum_11 : decode cX0_sum 11 = .ok (.ldc 166, 2) := by decide +kernel
theorem dX0_sum_13 : decode cX0_sum 13 = .ok (.invokespecial 52, 3) := by decide +kernel
theorem dX0_sum_16 : decode cX0_sum 16 = .ok (.athrow, 1) := by decide +kernel
theorem dX0_sum_17 : decode cX0_sum 17 = .ok (.iconst 0, 1) := by decide +kernel
theorem dX0_sum_18 : decode cX0_sum 18 = .ok (.istore_n 2, 1) := by decide +kernel
theorem dX0_sum_19 : decode cX0_sum 19 = .ok (.iconst 0, 1) := by decide +kernel
theorem dX0_sum_20 : decode cX0_sum 20 = .ok (.istore_n 3, 1) := by decide +kernel
theorem dX0_sum_21 : decode cX0_sum 21 = .ok (.iload_n 3, 1) := by decide +kernel
theorem dX0_sum_22 : decode cX0_sum 22 = .ok (.bipush 40, 2) := by decide +kernel
theorem dX0_sum_24 : decode cX0_sum 24 = .ok (.if_icmp .ge 28, 3) := by decide +kernel
theorem dX0_sum_27 : decode cX0_sum 27 = .ok (.aload_n 0, 1) := by decide +kernel
theorem dX0_sum_28 : decode cX0_sum 28 = .ok (.iload_n 3, 1) := by decide +kernel
theorem dX0_sum_29 : decode cX0_sum 29 = .ok (.invokevirtual 160, 3) := by decide +kernel
theorem dX0_sum_32 : decode cX0_sum 32 = .ok (.ifCond .eq 14, 3) := by decide +kernel
theorem dX0_sum_35 : decode cX0_sum 35 = .ok (.iload_n 2, 1) := by decide +kernel
theorem dX0_sum_36 : decode cX0_sum 36 = .ok (.aload_n 0, 1) := by decide +kernel
theorem dX0_sum_37 : decode cX0_sum 37 = .ok (.getfield 18, 3) := by decide +kernel
theorem dX0_sum_40 : decode cX0_sum 40 = .ok (.iload_n 1, 1) := by decide +kernel
theorem dX0_sum_41 : decode cX0_sum 41 = .ok (.aaload, 1) := by decide +kernel
theorem dX0_sum_42 : decode cX0_sum 42 = .ok (.iload_n 3, 1) := by decide +kernel
theorem dX0_sum_43 : decode cX0_sum 43 = .ok (.iaload, 1) := by decide +kernel
theorem dX0_sum_44 : decode cX0_sum 44 = .ok (.iadd, 1) := by decide +kernel
theorem dX0_sum_45 : decode cX0_sum 45 = .ok (.istore_n 2, 1) := by decide +kernel
theorem dX0_sum_46 : decode cX0_sum 46 = .ok (.iinc 3 1, 3) := by decide +kernel
theorem dX0_sum_49 : decode cX0_sum 49 = .ok (.goto (-28), 3) := by decide +kernel
theorem dX0_sum_52 : decode cX0_sum 52 = .ok (.iload_n 2, 1) := by decide +kernel
theorem dX0_sum_53 : decode cX0_sum 53 = .ok (.ireturn, 1) := by decide +kernel
theorem dX0_sumAtOnce_0 : decode cX0_sumAtOnce 0 = .ok (.iload_n 1, 1) := by decide +kernel
theorem dX0_sumAtOnce_1 : decode cX0_sumAtOnce 1 = .ok (.invokestatic 155, 3) := by decide +kernel
theorem dX0_sumAtOnce_4 : decode cX0_sumAtOnce 4 = .ok (.ifCond .ne 13, 3) := by decide +kernel
theorem dX0_sumAtOnce_7 : decode cX0_sumAtOnce 7 = .ok (.new 48, 3) := by decide +kernel
theorem dX0_sumAtOnce_10 : decode cX0_sumAtOnce 10 = .ok (.dup, 1) := by decide +kernel
theorem dX0_sumAtOnce_11 : decode cX0_sumAtOnce 11 = .ok (.ldc 166, 2) := by decide +kernel
theorem dX0_sumAtOnce_13 : decode cX0_sumAtOnce 13 = .ok (.invokespecial 52, 3) := by decide +kernel
theorem dX0_sumAtOnce_16 : decode cX0_sumAtOnce 16 = .ok (.athrow, 1) := by decide +kernel
theorem dX0_sumAtOnce_17 : decode cX0_sumAtOnce 17 = .ok (.aload_n 0, 1) := by decide +kernel
theorem dX0_sumAtOnce_18 : decode cX0_sumAtOnce 18 = .ok (.getfield 34, 3) := by decide +kernel
theorem dX0_sumAtOnce_21 : decode cX0_sumAtOnce 21 = .ok (.ifCond .ne 5, 3) := by decide +kernel
theorem dX0_sumAtOnce_24 : decode cX0_sumAtOnce 24 = .ok (.iconst 0, 1) := by decide +kernel
theorem dX0_sumAtOnce_25 : decode cX0_sumAtOnce 25 = .ok (.ireturn, 1) := by decide +kernel
theorem dX0_sumAtOnce_26 : decode cX0_sumAtOnce 26 = .ok (.iconst 0, 1) := by decide +kernel
theorem dX0_sumAtOnce_27 : decode cX0_sumAtOnce 27 = .ok (.istore_n 2, 1) := by decide +kernel
theorem dX0_sumAtOnce_28 : decode cX0_sumAtOnce 28 = .ok (.iconst 0, 1) := by decide +kernel
theorem dX0_sumAtOnce_29 : decode cX0_sumAtOnce 29 = .ok (.istore_n 3, 1) := by decide +kernel
theorem dX0_sumAtOnce_30 : decode cX0_sumAtOnce 30 = .ok (.iload_n 3, 1) := by decide +kernel
theorem dX0_sumAtOnce_31 : decode cX0_sumAtOnce 31 = .ok (.bipush 40, 2) := by decide +kernel
theorem dX0_sumAtOnce_33 : decode cX0_sumAtOnce 33 = .ok (.if_icmp .ge 28, 3) := by decide +kernel
theorem dX0_sumAtOnce_36 : decode cX0_sumAtOnce 36 = .ok (.aload_n 0, 1) := by decide +kernel
theorem dX0_sumAtOnce_37 : decode cX0_sumAtOnce 37 = .ok (.iload_n 3, 1) := by decide +kernel
theorem dX0_sumAtOnce_38 : decode cX0_sumAtOnce 38 = .ok (.iload_n 1, 1) := by decide +kernel
theorem dX0_sumAtOnce_39 : decode cX0_sumAtOnce 39 = .ok (.invokevirtual 168, 3) := by decide +kernel
theorem dX0_sumAtOnce_42 : decode cX0_sumAtOnce 42 = .ok (.istore 4, 2) := by decide +kernel
theorem dX0_sumAtOnce_44 : decode cX0_sumAtOnce 44 = .ok (.iload 4, 2) := by decide +kernel
theorem dX0_sumAtOnce_46 : decode cX0_sumAtOnce 46 = .ok (.iconst (-1), 1) := by decide +kernel
theorem dX0_sumAtOnce_47 : decode cX0_sumAtOnce 47 = .ok (.if_icmp .eq 8, 3) := by decide +kernel
theorem dX0_sumAtOnce_50 : decode cX0_sumAtOnce 50 = .ok (.iload_n 2, 1) := by decide +kernel
theorem dX0_sumAtOnce_51 : decode cX0_sumAtOnce 51 = .ok (.iload 4, 2) := by decide +kernel
theorem dX0_sumAtOnce_53 : decode cX0_sumAtOnce 53 = .ok (.iadd, 1) := by decide +kernel
theorem dX0_sumAtOnce_54 : decode cX0_sumAtOnce 54 = .ok (.istore_n 2, 1) := by decide +kernel
theorem dX0_sumAtOnce_55 : decode cX0_sumAtOnce 55 = .ok (.iinc 3 1, 3) := by decide +kernel
theorem dX0_sumAtOnce_58 : decode cX0_sumAtOnce 58 = .ok (.goto (-28), 3) := by decide +kernel
theorem dX0_sumAtOnce_61 : decode cX0_sumAtOnce 61 = .ok (.iload_n 2, 1) := by decide +kernel
theorem dX0_sumAtOnce_62 : decode cX0_sumAtOnce 62 = .ok (.ireturn, 1) := by decide +kernel
theorem dX0_isWithin_0 : decode cX0_isWithin 0 = .ok (.iload_n 0, 1) := by decide +kernel
theorem dX0_isWithin_1 : decode cX0_isWithin 1 = .ok (.iload_n 1, 1) := by decide +kernel
theorem dX0_isWithin_2 : decode cX0_isWithin 2 = .ok (.if_icmp .lt 12, 3) := by decide +kernel
theorem dX0_isWithin_5 : decode cX0_isWithin 5 = .ok (.iload_n 0, 1) := by decide +kernel
theorem dX0_isWithin_6 : decode cX0_isWithin 6 = .ok (.iload_n 2, 1) := by decide +kernel
theorem dX0_isWithin_7 : decode cX0_isWithin 7 = .ok (.if_icmp .gt 7, 3) := by decide +kernel
theorem dX0_isWithin_10 : decode cX0_isWithin 10 = .ok (.iconst 1, 1) := by decide +kernel
theorem dX0_isWithin_11 : decode cX0_isWithin 11 = .ok (.goto 4, 3) := by decide +kernel
theorem dX0_isWithin_14 : decode cX0_isWithin 14 = .ok (.iconst 0, 1) := by decide +kernel
theorem dX0_isWithin_15 : decode cX0_isWithin 15 = .ok (.ireturn, 1) := by decide +kernel
theorem dX0_isKey_0 : decode cX0_isKey 0 = .ok (.iload_n 0, 1) := by decide +kernel
theorem dX0_isKey_1 : decode cX0_isKey 1 = .ok (.iconst 0, 1) := by decide +kernel
theorem dX0_isKey_2 : decode cX0_isKey 2 = .ok (.bipush 39, 2) := by decide +kernel
theorem dX0_isKey_4 : decode cX0_isKey 4 = .ok (.invokestatic 107, 3) := by decide +kernel
theorem dX0_isKey_7 : decode cX0_isKey 7 = .ok (.ireturn, 1) := by decide +kernel
theorem dX0_isColumn_0 : decode cX0_isColumn 0 = .ok (.iload_n 0, 1) := by decide +kernel
theorem dX0_isColumn_1 : decode cX0_isColumn 1 = .ok (.iconst 0, 1) := by decide +kernel
theorem dX0_isColumn_2 : decode cX0_isColumn 2 = .ok (.iconst 2, 1) := by decide +kernel
theorem dX0_isColumn_3 : decode cX0_isColumn 3 = .ok (.invokestatic 107, 3) := by decide +kernel
theorem dX0_isColumn_6 : decode cX0_isColumn 6 = .ok (.ireturn, 1) := by decide +kernel
theorem dX0_canBeWritten_0 : decode cX0_canBeWritten 0 = .ok (.iload_n 1, 1) := by decide +kernel
theorem dX0_canBeWritten_1 : decode cX0_canBeWritten 1 = .ok (.iconst 0, 1) := by decide +kernel
theorem dX0_canBeWritten_2 : decode cX0_canBeWritten 2 = .ok (.sipush 999, 3) := by decide +kernel
theorem dX0_canBeWritten_5 : decode cX0_canBeWritten 5 = .ok (.invokestatic 107, 3) := by decide +kernel
theorem dX0_canBeWritten_8 : decode cX0_canBeWritten 8 = .ok (.ifCond .eq 34, 3) := by decide +kernel
theorem dX0_canBeWritten_11 : decode cX0_canBeWritten 11 = .ok (.iload_n 2, 1) := by decide +kernel
theorem dX0_canBeWritten_12 : decode cX0_canBeWritten 12 = .ok (.iconst 0, 1) := by decide +kernel
theorem dX0_canBeWritten_13 : decode cX0_canBeWritten 13 = .ok (.sipush 999, 3) := by decide +kernel
theorem dX0_canBeWritten_16 : decode cX0_canBeWritten 16 = .ok (.invokestatic 107, 3) := by decide +kernel
theorem dX0_canBeWritten_19 : decode cX0_canBeWritten 19 = .ok (.ifCond .eq 23, 3) := by decide +kernel
theorem dX0_canBeWritten_22 : decode cX0_canBeWritten 22 = .ok (.aload_n 0, 1) := by decide +kernel
theorem dX0_canBeWritten_23 : decode cX0_canBeWritten 23 = .ok (.getfield 34, 3) := by decide +kernel
theorem dX0_canBeWritten_26 : decode cX0_canBeWritten 26 = .ok (.iconst 2, 1) := by decide +kernel
theorem dX0_canBeWritten_27 : decode cX0_canBeWritten 27 = .ok (.if_icmp .ne 11, 3) := by decide +kernel
theorem dX0_canBeWritten_30 : decode cX0_canBeWritten 30 = .ok (.aload_n 0, 1) := by decide +kernel
theorem dX0_canBeWritten_31 : decode cX0_canBeWritten 31 = .ok (.iload_n 2, 1) := by decide +kernel
theorem dX0_canBeWritten_32 : decode cX0_canBeWritten 32 = .ok (.invokevirtual 171, 3) := by decide +kernel
theorem dX0_canBeWritten_35 : decode cX0_canBeWritten 35 = .ok (.ifCond .eq 7, 3) := by decide +kernel
theorem dX0_canBeWritten_38 : decode cX0_canBeWritten 38 = .ok (.iconst 1, 1) := by decide +kernel
theorem dX0_canBeWritten_39 : decode cX0_canBeWritten 39 = .ok (.goto 4, 3) := by decide +kernel
theorem dX0_canBeWritten_42 : decode cX0_canBeWritten 42 = .ok (.iconst 0, 1) := by decide +kernel
theorem dX0_canBeWritten_43 : decode cX0_canBeWritten 43 = .ok (.ireturn, 1) := by decide +kernel
theorem dX0_isInOld_0 : decode cX0_isInOld 0 = .ok (.aload_n 0, 1) := by decide +kernel
theorem dX0_isInOld_1 : decode cX0_isInOld 1 = .ok (.getfield 9, 3) := by decide +kernel
theorem dX0_isInOld_4 : decode cX0_isInOld 4 = .ok (.iload_n 1, 1) := by decide +kernel
theorem dX0_isInOld_5 : decode cX0_isInOld 5 = .ok (.iaload, 1) := by decide +kernel
theorem dX0_isInOld_6 : decode cX0_isInOld 6 = .ok (.iconst (-1), 1) := by decide +kernel
theorem dX0_isInOld_7 : decode cX0_isInOld 7 = .ok (.if_icmp .eq 7, 3) := by decide +kernel
theorem dX0_isInOld_10 : decode cX0_isInOld 10 = .ok (.iconst 1, 1) := by decide +kernel
theorem dX0_isInOld_11 : decode cX0_isInOld 11 = .ok (.goto 4, 3) := by decide +kernel
theorem dX0_isInOld_14 : decode cX0_isInOld 14 = .ok (.iconst 0, 1) := by decide +kernel
theorem dX0_isInOld_15 : decode cX0_isInOld 15 = .ok (.ireturn, 1) := by decide +kernel
theorem dX0_isInShadow_0 : decode cX0_isInShadow 0 = .ok (.aload_n 0, 1) := by decide +kernel
theorem dX0_isInShadow_1 : decode cX0_isInShadow 1 = .ok (.getfield 18, 3) := by decide +kernel
theorem dX0_isInShadow_4 : decode cX0_isInShadow 4 = .ok (.iconst 0, 1) := by decide +kernel
theorem dX0_isInShadow_5 : decode cX0_isInShadow 5 = .ok (.aaload, 1) := by decide +kernel
theorem dX0_isInShadow_6 : decode cX0_isInShadow 6 = .ok (.iload_n 1, 1) := by decide +kernel
theorem dX0_isInShadow_7 : decode cX0_isInShadow 7 = .ok (.iaload, 1) := by decide +kernel
theorem dX0_isInShadow_8 : decode cX0_isInShadow 8 = .ok (.iconst (-1), 1) := by decide +kernel
theorem dX0_isInShadow_9 : decode cX0_isInShadow 9 = .ok (.if_icmp .eq 7, 3) := by decide +kernel
theorem dX0_isInShadow_12 : decode cX0_isInShadow 12 = .ok (.iconst 1, 1) := by decide +kernel
theorem dX0_isInShadow_13 : decode cX0_isInShadow 13 = .ok (.goto 4, 3) := by decide +kernel
theorem dX0_isInShadow_16 : decode cX0_isInShadow 16 = .ok (.iconst 0, 1) := by decide +kernel
theorem dX0_isInShadow_17 : decode cX0_isInShadow 17 = .ok (.ireturn, 1) := by decide +kernel
theorem dX0_isSeen_0 : decode cX0_isSeen 0 = .ok (.aload_n 0, 1) := by decide +kernel
theorem dX0_isSeen_1 : decode cX0_isSeen 1 = .ok (.iload_n 1, 1) := by decide +kernel
theorem dX0_isSeen_2 : decode cX0_isSeen 2 = .ok (.invokevirtual 174, 3) := by decide +kernel
theorem dX0_isSeen_5 : decode cX0_isSeen 5 = .ok (.ifCond .eq 23, 3) := by decide +kernel
theorem dX0_isSeen_8 : decode cX0_isSeen 8 = .ok (.aload_n 0, 1) := by decide +kernel
theorem dX0_isSeen_9 : decode cX0_isSeen 9 = .ok (.getfield 34, 3) := by decide +kernel
theorem dX0_isSeen_12 : decode cX0_isSeen 12 = .ok (.iconst 2, 1) := by decide +kernel
theorem dX0_isSeen_13 : decode cX0_isSeen 13 = .ok (.if_icmp .ne 11, 3) := by decide +kernel
theorem dX0_isSeen_16 : decode cX0_isSeen 16 = .ok (.aload_n 0, 1) := by decide +kernel
theorem dX0_isSeen_17 : decode cX0_isSeen 17 = .ok (.iload_n 1, 1) := by decide +kernel
theorem dX0_isSeen_18 : decode cX0_isSeen 18 = .ok (.invokevirtual 160, 3) := by decide +kernel
theorem dX0_isSeen_21 : decode cX0_isSeen 21 = .ok (.ifCond .eq 7, 3) := by decide +kernel
theorem dX0_isSeen_24 : decode cX0_isSeen 24 = .ok (.iconst 1, 1) := by decide +kernel
theorem dX0_isSeen_25 : decode cX0_isSeen 25 = .ok (.goto 4, 3) := by decide +kernel
theorem dX0_isSeen_28 : decode cX0_isSeen 28 = .ok (.iconst 0, 1) := by decide +kernel
theorem dX0_isSeen_29 : decode cX0_isSeen 29 = .ok (.ireturn, 1) := by decide +kernel
theorem dX0_rowAsNumber_0 : decode cX0_rowAsNumber 0 = .ok (.sipush 1000, 3) := by decide +kernel
theorem dX0_rowAsNumber_3 : decode cX0_rowAsNumber 3 = .ok (.aload_n 0, 1) := by decide +kernel
theorem dX0_rowAsNumber_4 : decode cX0_rowAsNumber 4 = .ok (.getfield 9, 3) := by decide +kernel
theorem dX0_rowAsNumber_7 : decode cX0_rowAsNumber 7 = .ok (.iload_n 1, 1) := by decide +kernel
theorem dX0_rowAsNumber_8 : decode cX0_rowAsNumber 8 = .ok (.iaload, 1) := by decide +kernel
theorem dX0_rowAsNumber_9 : decode cX0_rowAsNumber 9 = .ok (.imul, 1) := by decide +kernel
theorem dX0_rowAsNumber_10 : decode cX0_rowAsNumber 10 = .ok (.aload_n 0, 1) := by decide +kernel
theorem dX0_rowAsNumber_11 : decode cX0_rowAsNumber 11 = .ok (.getfield 13, 3) := by decide +kernel
theorem dX0_rowAsNumber_14 : decode cX0_rowAsNumber 14 = .ok (.iload_n 1, 1) := by decide +kernel
theorem dX0_rowAsNumber_15 : decode cX0_rowAsNumber 15 = .ok (.iaload, 1) := by decide +kernel
theorem dX0_rowAsNumber_16 : decode cX0_rowAsNumber 16 = .ok (.iadd, 1) := by decide +kernel
theorem dX0_rowAsNumber_17 : decode cX0_rowAsNumber 17 = .ok (.ireturn, 1) := by decide +kernel
theorem dX0_putRow_0 : decode cX0_putRow 0 = .ok (.aload_n 0, 1) := by decide +kernel
theorem dX0_putRow_1 : decode cX0_putRow 1 = .ok (.getfield 9, 3) := by decide +kernel
theorem dX0_putRow_4 : decode cX0_putRow 4 = .ok (.iload_n 1, 1) := by decide +kernel
theorem dX0_putRow_5 : decode cX0_putRow 5 = .ok (.iload_n 2, 1) := by decide +kernel
theorem dX0_putRow_6 : decode cX0_putRow 6 = .ok (.iastore, 1) := by decide +kernel
theorem dX0_putRow_7 : decode cX0_putRow 7 = .ok (.aload_n 0, 1) := by decide +kernel
theorem dX0_putRow_8 : decode cX0_putRow 8 = .ok (.getfield 13, 3) := by decide +kernel
theorem dX0_putRow_11 : decode cX0_putRow 11 = .ok (.iload_n 1, 1) := by decide +kernel
theorem dX0_putRow_12 : decode cX0_putRow 12 = .ok (.iload_n 3, 1) := by decide +kernel
theorem dX0_putRow_13 : decode cX0_putRow 13 = .ok (.iastore, 1) := by decide +kernel
theorem dX0_putRow_14 : decode cX0_putRow 14 = .ok (.return_, 1) := by decide +kernel
theorem dX0_removeRow_0 : decode cX0_removeRow 0 = .ok (.aload_n 0, 1) := by decide +kernel
theorem dX0_removeRow_1 : decode cX0_removeRow 1 = .ok (.iload_n 1, 1) := by decide +kernel
theorem dX0_removeRow_2 : decode cX0_removeRow 2 = .ok (.iconst (-1), 1) := by decide +kernel
theorem dX0_removeRow_3 : decode cX0_removeRow 3 = .ok (.iconst (-1), 1) := by decide +kernel
theorem dX0_removeRow_4 : decode cX0_removeRow 4 = .ok (.invokevirtual 72, 3) := by decide +kernel
theorem dX0_removeRow_7 : decode cX0_removeRow 7 = .ok (.return_, 1) := by decide +kernel
theorem dX0_removeRowsWithoutShadow_0 : decode cX0_removeRowsWithoutShadow 0 = .ok (.iconst 0, 1) := by decide +kernel
theorem dX0_removeRowsWithoutShadow_1 : decode cX0_removeRowsWithoutShadow 1 = .ok (.istore_n 1, 1) := by decide +kernel
theorem dX0_removeRowsWithoutShadow_2 : decode cX0_removeRowsWithoutShadow 2 = .ok (.iconst 0, 1) := by decide +kernel
theorem dX0_removeRowsWithoutShadow_3 : decode cX0_removeRowsWithoutShadow 3 = .ok (.istore_n 2, 1) := by decide +kernel
theorem dX0_removeRowsWithoutShadow_4 : decode cX0_removeRowsWithoutShadow 4 = .ok (.iload_n 2, 1) := by decide +kernel
theorem dX0_removeRowsWithoutShadow_5 : decode cX0_removeRowsWithoutShadow 5 = .ok (.bipush 40, 2) := by decide +kernel
theorem dX0_removeRowsWithoutShadow_7 : decode cX0_removeRowsWithoutShadow 7 = .ok (.if_icmp .ge 33, 3) := by decide +kernel
theorem dX0_removeRowsWithoutShadow_10 : decode cX0_removeRowsWithoutShadow 10 = .ok (.aload_n 0, 1) := by decide +kernel
theorem dX0_removeRowsWithoutShadow_11 : decode cX0_removeRowsWithoutShadow 11 = .ok (.iload_n 2, 1) := by decide +kernel
theorem dX0_removeRowsWithoutShadow_12 : decode cX0_removeRowsWithoutShadow 12 = .ok (.invokevirtual 174, 3) := by decide +kernel
theorem dX0_removeRowsWithoutShadow_15 : decode cX0_removeRowsWithoutShadow 15 = .ok (.ifCond .eq 19, 3) := by decide +kernel
theorem dX0_removeRowsWithoutShadow_18 : decode cX0_removeRowsWithoutShadow 18 = .ok (.aload_n 0, 1) := by decide +kernel
theorem dX0_removeRowsWithoutShadow_19 : decode cX0_removeRowsWithoutShadow 19 = .ok (.iload_n 2, 1) := by decide +kernel
theorem dX0_removeRowsWithoutShadow_20 : decode cX0_removeRowsWithoutShadow 20 = .ok (.invokevirtual 160, 3) := by decide +kernel
theorem dX0_removeRowsWithoutShadow_23 : decode cX0_removeRowsWithoutShadow 23 = .ok (.ifCond .ne 11, 3) := by decide +kernel
theorem dX0_removeRowsWithoutShadow_26 : decode cX0_removeRowsWithoutShadow 26 = .ok (.aload_n 0, 1) := by decide +kernel
theorem dX0_removeRowsWithoutShadow_27 : decode cX0_removeRowsWithoutShadow 27 = .ok (.iload_n 2, 1) := by decide +kernel
theorem dX0_removeRowsWithoutShadow_28 : decode cX0_removeRowsWithoutShadow 28 = .ok (.invokevirtual 89, 3) := by decide +kernel
theorem dX0_removeRowsWithoutShadow_31 : decode cX0_removeRowsWithoutShadow 31 = .ok (.iinc 1 1, 3) := by decide +kernel
theorem dX0_removeRowsWithoutShadow_34 : decode cX0_removeRowsWithoutShadow 34 = .ok (.iinc 2 1, 3) := by decide +kernel
theorem dX0_removeRowsWithoutShadow_37 : decode cX0_removeRowsWithoutShadow 37 = .ok (.goto (-33), 3) := by decide +kernel
theorem dX0_removeRowsWithoutShadow_40 : decode cX0_removeRowsWithoutShadow 40 = .ok (.iload_n 1, 1) := by decide +kernel
theorem dX0_removeRowsWithoutShadow_41 : decode cX0_removeRowsWithoutShadow 41 = .ok (.ireturn, 1) := by decide +kernel
theorem dX0_fits_0 : decode cX0_fits 0 = .ok (.aload_n 0, 1) := by decide +kernel
theorem dX0_fits_1 : decode cX0_fits 1 = .ok (.getfield 115, 3) := by decide +kernel
theorem dX0_fits_4 : decode cX0_fits 4 = .ok (.iconst 1, 1) := by decide +kernel
theorem dX0_fits_5 : decode cX0_fits 5 = .ok (.if_icmp .ne 11, 3) := by decide +kernel
theorem dX0_fits_8 : decode cX0_fits 8 = .ok (.iload_n 1, 1) := by decide +kernel
theorem dX0_fits_9 : decode cX0_fits 9 = .ok (.aload_n 0, 1) := by decide +kernel
theorem dX0_fits_10 : decode cX0_fits 10 = .ok (.getfield 118, 3) := by decide +kernel
theorem dX0_fits_13 : decode cX0_fits 13 = .ok (.if_icmp .gt 7, 3) := by decide +kernel
theorem dX0_fits_16 : decode cX0_fits 16 = .ok (.iconst 1, 1) := by decide +kernel
theorem dX0_fits_17 : decode cX0_fits 17 = .ok (.goto 4, 3) := by decide +kernel
theorem dX0_fits_20 : decode cX0_fits 20 = .ok (.iconst 0, 1) := by decide +kernel
theorem dX0_fits_21 : decode cX0_fits 21 = .ok (.ireturn, 1) := by decide +kernel
theorem dX0_alteredColumn_0 : decode cX0_alteredColumn 0 = .ok (.iload_n 3, 1) := by decide +kernel
theorem dX0_alteredColumn_1 : decode cX0_alteredColumn 1 = .ok (.lookupswitch 50 #[(0, 27), (1, 43)], 27) := by decide +kernel
theorem dX0_alteredColumn_28 : decode cX0_alteredColumn 28 = .ok (.aload_n 0, 1) := by decide +kernel
theorem dX0_alteredColumn_29 : decode cX0_alteredColumn 29 = .ok (.getfield 115, 3) := by decide +kernel
theorem dX0_alteredColumn_32 : decode cX0_alteredColumn 32 = .ok (.ifCond .ne 10, 3) := by decide +kernel
theorem dX0_alteredColumn_35 : decode cX0_alteredColumn 35 = .ok (.iload_n 1, 1) := by decide +kernel
theorem dX0_alteredColumn_36 : decode cX0_alteredColumn 36 = .ok (.bipush 100, 2) := by decide +kernel
theorem dX0_alteredColumn_38 : decode cX0_alteredColumn 38 = .ok (.idiv, 1) := by decide +kernel
theorem dX0_alteredColumn_39 : decode cX0_alteredColumn 39 = .ok (.goto 4, 3) := by decide +kernel
theorem dX0_alteredColumn_42 : decode cX0_alteredColumn 42 = .ok (.iload_n 1, 1) := by decide +kernel
theorem dX0_alteredColumn_43 : decode cX0_alteredColumn 43 = .ok (.ireturn, 1) := by decide +kernel
theorem dX0_alteredColumn_44 : decode cX0_alteredColumn 44 = .ok (.aload_n 0, 1) := by decide +kernel
theorem dX0_alteredColumn_45 : decode cX0_alteredColumn 45 = .ok (.iload_n 1, 1) := by decide +kernel
theorem dX0_alteredColumn_46 : decode cX0_alteredColumn 46 = .ok (.iload_n 2, 1) := by decide +kernel
theorem dX0_alteredColumn_47 : decode cX0_alteredColumn 47 = .ok (.invokevirtual 177, 3) := by decide +kernel
theorem dX0_alteredColumn_50 : decode cX0_alteredColumn 50 = .ok (.ireturn, 1) := by decide +kernel
theorem dX0_alteredColumn_51 : decode cX0_alteredColumn 51 = .ok (.aload_n 0, 1) := by decide +kernel
theorem dX0_alteredColumn_52 : decode cX0_alteredColumn 52 = .ok (.iload_n 2, 1) := by decide +kernel
theorem dX0_alteredColumn_53 : decode cX0_alteredColumn 53 = .ok (.invokevirtual 180, 3) := by decide +kernel
theorem dX0_alteredColumn_56 : decode cX0_alteredColumn 56 = .ok (.ireturn, 1) := by decide +kernel
theorem dX0_alteredMiddle_0 : decode cX0_alteredMiddle 0 = .ok (.aload_n 0, 1) := by decide +kernel
theorem dX0_alteredMiddle_1 : decode cX0_alteredMiddle 1 = .ok (.getfield 115, 3) := by decide +kernel
theorem dX0_alteredMiddle_4 : decode cX0_alteredMiddle 4 = .ok (.lookupswitch 35 #[(0, 28), (1, 33)], 28) := by decide +kernel
theorem dX0_alteredMiddle_32 : decode cX0_alteredMiddle 32 = .ok (.iload_n 1, 1) := by decide +kernel
theorem dX0_alteredMiddle_33 : decode cX0_alteredMiddle 33 = .ok (.bipush 100, 2) := by decide +kernel
theorem dX0_alteredMiddle_35 : decode cX0_alteredMiddle 35 = .ok (.irem, 1) := by decide +kernel
theorem dX0_alteredMiddle_36 : decode cX0_alteredMiddle 36 = .ok (.ireturn, 1) := by decide +kernel
theorem dX0_alteredMiddle_37 : decode cX0_alteredMiddle 37 = .ok (.iload_n 2, 1) := by decide +kernel
theorem dX0_alteredMiddle_38 : decode cX0_alteredMiddle 38 = .ok (.ireturn, 1) := by decide +kernel
theorem dX0_alteredMiddle_39 : decode cX0_alteredMiddle 39 = .ok (.iload_n 2, 1) := by decide +kernel
theorem dX0_alteredMiddle_40 : decode cX0_alteredMiddle 40 = .ok (.aload_n 0, 1) := by decide +kernel
theorem dX0_alteredMiddle_41 : decode cX0_alteredMiddle 41 = .ok (.getfield 118, 3) := by decide +kernel
theorem dX0_alteredMiddle_44 : decode cX0_alteredMiddle 44 = .ok (.imul, 1) := by decide +kernel
theorem dX0_alteredMiddle_45 : decode cX0_alteredMiddle 45 = .ok (.ireturn, 1) := by decide +kernel
theorem dX0_alteredLast_0 : decode cX0_alteredLast 0 = .ok (.aload_n 0, 1) := by decide +kernel
theorem dX0_alteredLast_1 : decode cX0_alteredLast 1 = .ok (.getfield 115, 3) := by decide +kernel
theorem dX0_alteredLast_4 : decode cX0_alteredLast 4 = .ok (.lookupswitch 32 #[(0, 28), (1, 30)], 28) := by decide +kernel
theorem dX0_alteredLast_32 : decode cX0_alteredLast 32 = .ok (.iload_n 1, 1) := by decide +kernel
theorem dX0_alteredLast_33 : decode cX0_alteredLast 33 = .ok (.ireturn, 1) := by decide +kernel
theorem dX0_alteredLast_34 : decode cX0_alteredLast 34 = .ok (.iconst 0, 1) := by decide +kernel
theorem dX0_alteredLast_35 : decode cX0_alteredLast 35 = .ok (.ireturn, 1) := by decide +kernel
theorem dX0_alteredLast_36 : decode cX0_alteredLast 36 = .ok (.iload_n 1, 1) := by decide +kernel
theorem dX0_alteredLast_37 : decode cX0_alteredLast 37 = .ok (.invokestatic 183, 3) := by decide +kernel
theorem dX0_alteredLast_40 : decode cX0_alteredLast 40 = .ok (.ireturn, 1) := by decide +kernel
theorem dX0_digits_0 : decode cX0_digits 0 = .ok (.iload_n 0, 1) := by decide +kernel
theorem dX0_digits_1 : decode cX0_digits 1 = .ok (.bipush 10, 2) := by decide +kernel
theorem dX0_digits_3 : decode cX0_digits 3 = .ok (.if_icmp .ge 5, 3) := by decide +kernel
theorem dX0_digits_6 : decode cX0_digits 6 = .ok (.iconst 1, 1) := by decide +kernel
theorem dX0_digits_7 : decode cX0_digits 7 = .ok (.ireturn, 1) := by decide +kernel
theorem dX0_digits_8 : decode cX0_digits 8 = .ok (.iload_n 0, 1) := by decide +kernel
theorem dX0_digits_9 : decode cX0_digits 9 = .ok (.bipush 100, 2) := by decide +kernel
theorem dX0_digits_11 : decode cX0_digits 11 = .ok (.if_icmp .ge 7, 3) := by decide +kernel
theorem dX0_digits_14 : decode cX0_digits 14 = .ok (.iconst 2, 1) := by decide +kernel
theorem dX0_digits_15 : decode cX0_digits 15 = .ok (.goto 4, 3) := by decide +kernel
theorem dX0_digits_18 : decode cX0_digits 18 = .ok (.iconst 3, 1) := by decide +kernel
theorem dX0_digits_19 : decode cX0_digits 19 = .ok (.ireturn, 1) := by decide +kernel
theorem dX0_broughtColumn_0 : decode cX0_broughtColumn 0 = .ok (.aload_n 0, 1) := by decide +kernel
theorem dX0_broughtColumn_1 : decode cX0_broughtColumn 1 = .ok (.iload_n 1, 1) := by decide +kernel
theorem dX0_broughtColumn_2 : decode cX0_broughtColumn 2 = .ok (.invokevirtual 174, 3) := by decide +kernel
theorem dX0_broughtColumn_5 : decode cX0_broughtColumn 5 = .ok (.ifCond .eq 16, 3) := by decide +kernel
theorem dX0_broughtColumn_8 : decode cX0_broughtColumn 8 = .ok (.aload_n 0, 1) := by decide +kernel
theorem dX0_broughtColumn_9 : decode cX0_broughtColumn 9 = .ok (.aload_n 0, 1) := by decide +kernel
theorem dX0_broughtColumn_10 : decode cX0_broughtColumn 10 = .ok (.getfield 13, 3) := by decide +kernel
theorem dX0_broughtColumn_13 : decode cX0_broughtColumn 13 = .ok (.iload_n 1, 1) := by decide +kernel
theorem dX0_broughtColumn_14 : decode cX0_broughtColumn 14 = .ok (.iaload, 1) := by decide +kernel
theorem dX0_broughtColumn_15 : decode cX0_broughtColumn 15 = .ok (.invokevirtual 171, 3) := by decide +kernel
theorem dX0_broughtColumn_18 : decode cX0_broughtColumn 18 = .ok (.ifCond .ne 5, 3) := by decide +kernel
theorem dX0_broughtColumn_21 : decode cX0_broughtColumn 21 = .ok (.iconst (-1), 1) := by decide +kernel
theorem dX0_broughtColumn_22 : decode cX0_broughtColumn 22 = .ok (.ireturn, 1) := by decide +kernel
theorem dX0_broughtColumn_23 : decode cX0_broughtColumn 23 = .ok (.aload_n 0, 1) := by decide +kernel
theorem dX0_broughtColumn_24 : decode cX0_broughtColumn 24 = .ok (.aload_n 0, 1) := by decide +kernel
theorem dX0_broughtColumn_25 : decode cX0_broughtColumn 25 = .ok (.getfield 9, 3) := by decide +kernel
theorem dX0_broughtColumn_28 : decode cX0_broughtColumn 28 = .ok (.iload_n 1, 1) := by decide +kernel
theorem dX0_broughtColumn_29 : decode cX0_broughtColumn 29 = .ok (.iaload, 1) := by decide +kernel
theorem dX0_broughtColumn_30 : decode cX0_broughtColumn 30 = .ok (.aload_n 0, 1) := by decide +kernel
theorem dX0_broughtColumn_31 : decode cX0_broughtColumn 31 = .ok (.getfield 13, 3) := by decide +kernel
theorem dX0_broughtColumn_34 : decode cX0_broughtColumn 34 = .ok (.iload_n 1, 1) := by decide +kernel
theorem dX0_broughtColumn_35 : decode cX0_broughtColumn 35 = .ok (.iaload, 1) := by decide +kernel
theorem dX0_broughtColumn_36 : decode cX0_broughtColumn 36 = .ok (.iload_n 2, 1) := by decide +kernel
theorem dX0_broughtColumn_37 : decode cX0_broughtColumn 37 = .ok (.invokevirtual 186, 3) := by decide +kernel
theorem dX0_broughtColumn_40 : decode cX0_broughtColumn 40 = .ok (.ireturn, 1) := by decide +kernel
theorem dX0_bring_0 : decode cX0_bring 0 = .ok (.iconst 0, 1) := by decide +kernel
theorem dX0_bring_1 : decode cX0_bring 1 = .ok (.istore_n 2, 1) := by decide +kernel
theorem dX0_bring_2 : decode cX0_bring 2 = .ok (.iload_n 2, 1) := by decide +kernel
theorem dX0_bring_3 : decode cX0_bring 3 = .ok (.iconst 3, 1) := by decide +kernel
theorem dX0_bring_4 : decode cX0_bring 4 = .ok (.if_icmp .ge 23, 3) := by decide +kernel
theorem dX0_bring_7 : decode cX0_bring 7 = .ok (.aload_n 0, 1) := by decide +kernel
theorem dX0_bring_8 : decode cX0_bring 8 = .ok (.getfield 18, 3) := by decide +kernel
theorem dX0_bring_11 : decode cX0_bring 11 = .ok (.iload_n 2, 1) := by decide +kernel
theorem dX0_bring_12 : decode cX0_bring 12 = .ok (.aaload, 1) := by decide +kernel
theorem dX0_bring_13 : decode cX0_bring 13 = .ok (.iload_n 1, 1) := by decide +kernel
theorem dX0_bring_14 : decode cX0_bring 14 = .ok (.aload_n 0, 1) := by decide +kernel
theorem dX0_bring_15 : decode cX0_bring 15 = .ok (.iload_n 1, 1) := by decide +kernel
theorem dX0_bring_16 : decode cX0_bring 16 = .ok (.iload_n 2, 1) := by decide +kernel
theorem dX0_bring_17 : decode cX0_bring 17 = .ok (.invokevirtual 168, 3) := by decide +kernel
theorem dX0_bring_20 : decode cX0_bring 20 = .ok (.iastore, 1) := by decide +kernel
theorem dX0_bring_21 : decode cX0_bring 21 = .ok (.iinc 2 1, 3) := by decide +kernel
theorem dX0_bring_24 : decode cX0_bring 24 = .ok (.goto (-22), 3) := by decide +kernel
theorem dX0_bring_27 : decode cX0_bring 27 = .ok (.aload_n 0, 1) := by decide +kernel
theorem dX0_bring_28 : decode cX0_bring 28 = .ok (.getfield 21, 3) := by decide +kernel
theorem dX0_bring_31 : decode cX0_bring 31 = .ok (.iload_n 1, 1) := by decide +kernel
theorem dX0_bring_32 : decode cX0_bring 32 = .ok (.aload_n 0, 1) := by decide +kernel
theorem dX0_bring_33 : decode cX0_bring 33 = .ok (.iload_n 1, 1) := by decide +kernel
theorem dX0_bring_34 : decode cX0_bring 34 = .ok (.invokevirtual 174, 3) := by decide +kernel
theorem dX0_bring_37 : decode cX0_bring 37 = .ok (.ifCond .eq 20, 3) := by decide +kernel
theorem dX0_bring_40 : decode cX0_bring 40 = .ok (.aload_n 0, 1) := by decide +kernel
theorem dX0_bring_41 : decode cX0_bring 41 = .ok (.aload_n 0, 1) := by decide +kernel
theorem dX0_bring_42 : decode cX0_bring 42 = .ok (.getfield 13, 3) := by decide +kernel
theorem dX0_bring_45 : decode cX0_bring 45 = .ok (.iload_n 1, 1) := by decide +kernel
theorem dX0_bring_46 : decode cX0_bring 46 = .ok (.iaload, 1) := by decide +kernel
theorem dX0_bring_47 : decode cX0_bring 47 = .ok (.invokevirtual 171, 3) := by decide +kernel
theorem dX0_bring_50 : decode cX0_bring 50 = .ok (.ifCond .ne 7, 3) := by decide +kernel
theorem dX0_bring_53 : decode cX0_bring 53 = .ok (.iconst 1, 1) := by decide +kernel
theorem dX0_bring_54 : decode cX0_bring 54 = .ok (.goto 4, 3) := by decide +kernel
theorem dX0_bring_57 : decode cX0_bring 57 = .ok (.iconst 0, 1) := by decide +kernel
theorem dX0_bring_58 : decode cX0_bring 58 = .ok (.bastore, 1) := by decide +kernel
theorem dX0_bring_59 : decode cX0_bring 59 = .ok (.return_, 1) := by decide +kernel
theorem dX0_isBehind_0 : decode cX0_isBehind 0 = .ok (.iconst 0, 1) := by decide +kernel
theorem dX0_isBehind_1 : decode cX0_isBehind 1 = .ok (.istore_n 2, 1) := by decide +kernel
theorem dX0_isBehind_2 : decode cX0_isBehind 2 = .ok (.iload_n 2, 1) := by decide +kernel
theorem dX0_isBehind_3 : decode cX0_isBehind 3 = .ok (.iconst 3, 1) := by decide +kernel
theorem dX0_isBehind_4 : decode cX0_isBehind 4 = .ok (.if_icmp .ge 28, 3) := by decide +kernel
theorem dX0_isBehind_7 : decode cX0_isBehind 7 = .ok (.aload_n 0, 1) := by decide +kernel
theorem dX0_isBehind_8 : decode cX0_isBehind 8 = .ok (.getfield 18, 3) := by decide +kernel
theorem dX0_isBehind_11 : decode cX0_isBehind 11 = .ok (.iload_n 2, 1) := by decide +kernel
theorem dX0_isBehind_12 : decode cX0_isBehind 12 = .ok (.aaload, 1) := by decide +kernel
theorem dX0_isBehind_13 : decode cX0_isBehind 13 = .ok (.iload_n 1, 1) := by decide +kernel
theorem dX0_isBehind_14 : decode cX0_isBehind 14 = .ok (.iaload, 1) := by decide +kernel
theorem dX0_isBehind_15 : decode cX0_isBehind 15 = .ok (.aload_n 0, 1) := by decide +kernel
theorem dX0_isBehind_16 : decode cX0_isBehind 16 = .ok (.iload_n 1, 1) := by decide +kernel
theorem dX0_isBehind_17 : decode cX0_isBehind 17 = .ok (.iload_n 2, 1) := by decide +kernel
theorem dX0_isBehind_18 : decode cX0_isBehind 18 = .ok (.invokevirtual 168, 3) := by decide +kernel
theorem dX0_isBehind_21 : decode cX0_isBehind 21 = .ok (.if_icmp .eq 5, 3) := by decide +kernel
theorem dX0_isBehind_24 : decode cX0_isBehind 24 = .ok (.iconst 1, 1) := by decide +kernel
theorem dX0_isBehind_25 : decode cX0_isBehind 25 = .ok (.ireturn, 1) := by decide +kernel
theorem dX0_isBehind_26 : decode cX0_isBehind 26 = .ok (.iinc 2 1, 3) := by decide +kernel
theorem dX0_isBehind_29 : decode cX0_isBehind 29 = .ok (.goto (-27), 3) := by decide +kernel
theorem dX0_isBehind_32 : decode cX0_isBehind 32 = .ok (.iconst 0, 1) := by decide +kernel
theorem dX0_isBehind_33 : decode cX0_isBehind 33 = .ok (.ireturn, 1) := by decide +kernel
theorem dX0_followWrite_0 : decode cX0_followWrite 0 = .ok (.aload_n 0, 1) := by decide +kernel
theorem dX0_followWrite_1 : decode cX0_followWrite 1 = .ok (.getfield 34, 3) := by decide +kernel
theorem dX0_followWrite_4 : decode cX0_followWrite 4 = .ok (.iconst 1, 1) := by decide +kernel
theorem dX0_followWrite_5 : decode cX0_followWrite 5 = .ok (.if_icmp .ne 11, 3) := by decide +kernel
theorem dX0_followWrite_8 : decode cX0_followWrite 8 = .ok (.aload_n 0, 1) := by decide +kernel
theorem dX0_followWrite_9 : decode cX0_followWrite 9 = .ok (.iload_n 1, 1) := by decide +kernel
theorem dX0_followWrite_10 : decode cX0_followWrite 10 = .ok (.invokevirtual 190, 3) := by decide +kernel
theorem dX0_followWrite_13 : decode cX0_followWrite 13 = .ok (.goto 16, 3) := by decide +kernel
theorem dX0_followWrite_16 : decode cX0_followWrite 16 = .ok (.aload_n 0, 1) := by decide +kernel
theorem dX0_followWrite_17 : decode cX0_followWrite 17 = .ok (.getfield 34, 3) := by decide +kernel
theorem dX0_followWrite_20 : decode cX0_followWrite 20 = .ok (.iconst 2, 1) := by decide +kernel
theorem dX0_followWrite_21 : decode cX0_followWrite 21 = .ok (.if_icmp .ne 8, 3) := by decide +kernel
theorem dX0_followWrite_24 : decode cX0_followWrite 24 = .ok (.aload_n 0, 1) := by decide +kernel
theorem dX0_followWrite_25 : decode cX0_followWrite 25 = .ok (.iload_n 1, 1) := by decide +kernel
theorem dX0_followWrite_26 : decode cX0_followWrite 26 = .ok (.invokevirtual 193, 3) := by decide +kernel
theorem dX0_followWrite_29 : decode cX0_followWrite 29 = .ok (.return_, 1) := by decide +kernel
theorem dX0_noteKey_0 : decode cX0_noteKey 0 = .ok (.aload_n 0, 1) := by decide +kernel
theorem dX0_noteKey_1 : decode cX0_noteKey 1 = .ok (.getfield 134, 3) := by decide +kernel
theorem dX0_noteKey_4 : decode cX0_noteKey 4 = .ok (.sipush 1024, 3) := by decide +kernel
theorem dX0_noteKey_7 : decode cX0_noteKey 7 = .ok (.if_icmp .ge 23, 3) := by decide +kernel
theorem dX0_noteKey_10 : decode cX0_noteKey 10 = .ok (.aload_n 0, 1) := by decide +kernel
theorem dX0_noteKey_11 : decode cX0_noteKey 11 = .ok (.getfield 25, 3) := by decide +kernel
theorem dX0_noteKey_14 : decode cX0_noteKey 14 = .ok (.aload_n 0, 1) := by decide +kernel
theorem dX0_noteKey_15 : decode cX0_noteKey 15 = .ok (.getfield 134, 3) := by decide +kernel
theorem dX0_noteKey_18 : decode cX0_noteKey 18 = .ok (.iload_n 1, 1) := by decide +kernel
theorem dX0_noteKey_19 : decode cX0_noteKey 19 = .ok (.iastore, 1) := by decide +kernel
theorem dX0_noteKey_20 : decode cX0_noteKey 20 = .ok (.aload_n 0, 1) := by decide +kernel
theorem dX0_noteKey_21 : decode cX0_noteKey 21 = .ok (.dup, 1) := by decide +kernel
theorem dX0_noteKey_22 : decode cX0_noteKey 22 = .ok (.getfield 134, 3) := by decide +kernel
theorem dX0_noteKey_25 : decode cX0_noteKey 25 = .ok (.iconst 1, 1) := by decide +kernel
theorem dX0_noteKey_26 : decode cX0_noteKey 26 = .ok (.iadd, 1) := by decide +kernel
theorem dX0_noteKey_27 : decode cX0_noteKey 27 = .ok (.putfield 134, 3) := by decide +kernel
theorem dX0_noteKey_30 : decode cX0_noteKey 30 = .ok (.return_, 1) := by decide +kernel
theorem dX0_copyChunk_0 : decode cX0_copyChunk 0 = .ok (.aload_n 0, 1) := by decide +kernel
theorem dX0_copyChunk_1 : decode cX0_copyChunk 1 = .ok (.getfield 121, 3) := by decide +kernel
theorem dX0_copyChunk_4 : decode cX0_copyChunk 4 = .ok (.aload_n 0, 1) := by decide +kernel
theorem dX0_copyChunk_5 : decode cX0_copyChunk 5 = .ok (.getfield 38, 3) := by decide +kernel
theorem dX0_copyChunk_8 : decode cX0_copyChunk 8 = .ok (.iadd, 1) := by decide +kernel
theorem dX0_copyChunk_9 : decode cX0_copyChunk 9 = .ok (.bipush 40, 2) := by decide +kernel
theorem dX0_copyChunk_11 : decode cX0_copyChunk 11 = .ok (.invokestatic 98, 3) := by decide +kernel
theorem dX0_copyChunk_14 : decode cX0_copyChunk 14 = .ok (.istore_n 1, 1) := by decide +kernel
theorem dX0_copyChunk_15 : decode cX0_copyChunk 15 = .ok (.iload_n 1, 1) := by decide +kernel
theorem dX0_copyChunk_16 : decode cX0_copyChunk 16 = .ok (.aload_n 0, 1) := by decide +kernel
theorem dX0_copyChunk_17 : decode cX0_copyChunk 17 = .ok (.getfield 121, 3) := by decide +kernel
theorem dX0_copyChunk_20 : decode cX0_copyChunk 20 = .ok (.isub, 1) := by decide +kernel
theorem dX0_copyChunk_21 : decode cX0_copyChunk 21 = .ok (.istore_n 2, 1) := by decide +kernel
theorem dX0_copyChunk_22 : decode cX0_copyChunk 22 = .ok (.aload_n 0, 1) := by decide +kernel
theorem dX0_copyChunk_23 : decode cX0_copyChunk 23 = .ok (.getfield 121, 3) := by decide +kernel
theorem dX0_copyChunk_26 : decode cX0_copyChunk 26 = .ok (.istore_n 3, 1) := by decide +kernel
theorem dX0_copyChunk_27 : decode cX0_copyChunk 27 = .ok (.iload_n 3, 1) := by decide +kernel
theorem dX0_copyChunk_28 : decode cX0_copyChunk 28 = .ok (.iload_n 1, 1) := by decide +kernel
theorem dX0_copyChunk_29 : decode cX0_copyChunk 29 = .ok (.if_icmp .ge 14, 3) := by decide +kernel
theorem dX0_copyChunk_32 : decode cX0_copyChunk 32 = .ok (.aload_n 0, 1) := by decide +kernel
theorem dX0_copyChunk_33 : decode cX0_copyChunk 33 = .ok (.iload_n 3, 1) := by decide +kernel
theorem dX0_copyChunk_34 : decode cX0_copyChunk 34 = .ok (.invokevirtual 193, 3) := by decide +kernel
theorem dX0_copyChunk_37 : decode cX0_copyChunk 37 = .ok (.iinc 3 1, 3) := by decide +kernel
theorem dX0_copyChunk_40 : decode cX0_copyChunk 40 = .ok (.goto (-13), 3) := by decide +kernel
theorem dX0_copyChunk_43 : decode cX0_copyChunk 43 = .ok (.aload_n 0, 1) := by decide +kernel
theorem dX0_copyChunk_44 : decode cX0_copyChunk 44 = .ok (.iload_n 1, 1) := by decide +kernel
theorem dX0_copyChunk_45 : decode cX0_copyChunk 45 = .ok (.putfield 121, 3) := by decide +kernel
theorem dX0_copyChunk_48 : decode cX0_copyChunk 48 = .ok (.iload_n 2, 1) := by decide +kernel
theorem dX0_copyChunk_49 : decode cX0_copyChunk 49 = .ok (.ireturn, 1) := by decide +kernel
theorem dX0_playNotes_0 : decode cX0_playNotes 0 = .ok (.iconst 0, 1) := by decide +kernel
theorem dX0_playNotes_1 : decode cX0_playNotes 1 = .ok (.istore_n 2, 1) := by decide +kernel
theorem dX0_playNotes_2 : decode cX0_playNotes 2 = .ok (.iload_n 2, 1) := by decide +kernel
theorem dX0_playNotes_3 : decode cX0_playNotes 3 = .ok (.iload_n 1, 1) := by decide +kernel
theorem dX0_playNotes_4 : decode cX0_playNotes 4 = .ok (.if_icmp .ge 19, 3) := by decide +kernel
theorem dX0_playNotes_7 : decode cX0_playNotes 7 = .ok (.aload_n 0, 1) := by decide +kernel
theorem dX0_playNotes_8 : decode cX0_playNotes 8 = .ok (.aload_n 0, 1) := by decide +kernel
theorem dX0_playNotes_9 : decode cX0_playNotes 9 = .ok (.getfield 25, 3) := by decide +kernel
theorem dX0_playNotes_12 : decode cX0_playNotes 12 = .ok (.iload_n 2, 1) := by decide +kernel
theorem dX0_playNotes_13 : decode cX0_playNotes 13 = .ok (.iaload, 1) := by decide +kernel
theorem dX0_playNotes_14 : decode cX0_playNotes 14 = .ok (.invokevirtual 193, 3) := by decide +kernel
theorem dX0_playNotes_17 : decode cX0_playNotes 17 = .ok (.iinc 2 1, 3) := by decide +kernel
theorem dX0_playNotes_20 : decode cX0_playNotes 20 = .ok (.goto (-18), 3) := by decide +kernel
theorem dX0_playNotes_23 : decode cX0_playNotes 23 = .ok (.aload_n 0, 1) := by decide +kernel
theorem dX0_playNotes_24 : decode cX0_playNotes 24 = .ok (.dup, 1) := by decide +kernel
theorem dX0_playNotes_25 : decode cX0_playNotes 25 = .ok (.getfield 134, 3) := by decide +kernel
theorem dX0_playNotes_28 : decode cX0_playNotes 28 = .ok (.iload_n 1, 1) := by decide +kernel
theorem dX0_playNotes_29 : decode cX0_playNotes 29 = .ok (.isub, 1) := by decide +kernel
theorem dX0_playNotes_30 : decode cX0_playNotes 30 = .ok (.putfield 134, 3) := by decide +kernel
theorem dX0_playNotes_33 : decode cX0_playNotes 33 = .ok (.aload_n 0, 1) := by decide +kernel
theorem dX0_playNotes_34 : decode cX0_playNotes 34 = .ok (.getfield 25, 3) := by decide +kernel
theorem dX0_playNotes_37 : decode cX0_playNotes 37 = .ok (.iload_n 1, 1) := by decide +kernel
theorem dX0_playNotes_38 : decode cX0_playNotes 38 = .ok (.aload_n 0, 1) := by decide +kernel
theorem dX0_playNotes_39 : decode cX0_playNotes 39 = .ok (.getfield 25, 3) := by decide +kernel
theorem dX0_playNotes_42 : decode cX0_playNotes 42 = .ok (.iconst 0, 1) := by decide +kernel
theorem dX0_playNotes_43 : decode cX0_playNotes 43 = .ok (.aload_n 0, 1) := by decide +kernel
theorem dX0_playNotes_44 : decode cX0_playNotes 44 = .ok (.getfield 134, 3) := by decide +kernel
theorem dX0_playNotes_47 : decode cX0_playNotes 47 = .ok (.invokestatic 196, 3) := by decide +kernel
theorem dX0_playNotes_50 : decode cX0_playNotes 50 = .ok (.iload_n 1, 1) := by decide +kernel
theorem dX0_playNotes_51 : decode cX0_playNotes 51 = .ok (.ireturn, 1) := by decide +kernel
theorem dX0_endChange_0 : decode cX0_endChange 0 = .ok (.aload_n 0, 1) := by decide +kernel
theorem dX0_endChange_1 : decode cX0_endChange 1 = .ok (.getfield 18, 3) := by decide +kernel
theorem dX0_endChange_4 : decode cX0_endChange 4 = .ok (.astore_n 1, 1) := by decide +kernel
theorem dX0_endChange_5 : decode cX0_endChange 5 = .ok (.aload_n 1, 1) := by decide +kernel
theorem dX0_endChange_6 : decode cX0_endChange 6 = .ok (.arraylength, 1) := by decide +kernel
theorem dX0_endChange_7 : decode cX0_endChange 7 = .ok (.istore_n 2, 1) := by decide +kernel
theorem dX0_endChange_8 : decode cX0_endChange 8 = .ok (.iconst 0, 1) := by decide +kernel
theorem dX0_endChange_9 : decode cX0_endChange 9 = .ok (.istore_n 3, 1) := by decide +kernel
theorem dX0_endChange_10 : decode cX0_endChange 10 = .ok (.iload_n 3, 1) := by decide +kernel
theorem dX0_endChange_11 : decode cX0_endChange 11 = .ok (.iload_n 2, 1) := by decide +kernel
theorem dX0_endChange_12 : decode cX0_endChange 12 = .ok (.if_icmp .ge 20, 3) := by decide +kernel
theorem dX0_endChange_15 : decode cX0_endChange 15 = .ok (.aload_n 1, 1) := by decide +kernel
theorem dX0_endChange_16 : decode cX0_endChange 16 = .ok (.iload_n 3, 1) := by decide +kernel
theorem dX0_endChange_17 : decode cX0_endChange 17 = .ok (.aaload, 1) := by decide +kernel
theorem dX0_endChange_18 : decode cX0_endChange 18 = .ok (.astore 4, 2) := by decide +kernel
theorem dX0_endChange_20 : decode cX0_endChange 20 = .ok (.aload 4, 2) := by decide +kernel
theorem dX0_endChange_22 : decode cX0_endChange 22 = .ok (.iconst (-1), 1) := by decide +kernel
theorem dX0_endChange_23 : decode cX0_endChange 23 = .ok (.invokestatic 28, 3) := by decide +kernel
theorem dX0_endChange_26 : decode cX0_endChange 26 = .ok (.iinc 3 1, 3) := by decide +kernel
theorem dX0_endChange_29 : decode cX0_endChange 29 = .ok (.goto (-19), 3) := by decide +kernel
theorem dX0_endChange_32 : decode cX0_endChange 32 = .ok (.iconst 0, 1) := by decide +kernel
theorem dX0_endChange_33 : decode cX0_endChange 33 = .ok (.istore_n 1, 1) := by decide +kernel
theorem dX0_endChange_34 : decode cX0_endChange 34 = .ok (.iload_n 1, 1) := by decide +kernel
theorem dX0_endChange_35 : decode cX0_endChange 35 = .ok (.bipush 40, 2) := by decide +kernel
theorem dX0_endChange_37 : decode cX0_endChange 37 = .ok (.if_icmp .ge 16, 3) := by decide +kernel
theorem dX0_endChange_40 : decode cX0_endChange 40 = .ok (.aload_n 0, 1) := by decide +kernel
theorem dX0_endChange_41 : decode cX0_endChange 41 = .ok (.getfield 21, 3) := by decide +kernel
theorem dX0_endChange_44 : decode cX0_endChange 44 = .ok (.iload_n 1, 1) := by decide +kernel
theorem dX0_endChange_45 : decode cX0_endChange 45 = .ok (.iconst 0, 1) := by decide +kernel
theorem dX0_endChange_46 : decode cX0_endChange 46 = .ok (.bastore, 1) := by decide +kernel
theorem dX0_endChange_47 : decode cX0_endChange 47 = .ok (.iinc 1 1, 3) := by decide +kernel
theorem dX0_endChange_50 : decode cX0_endChange 50 = .ok (.goto (-16), 3) := by decide +kernel
theorem dX0_endChange_53 : decode cX0_endChange 53 = .ok (.aload_n 0, 1) := by decide +kernel
theorem dX0_endChange_54 : decode cX0_endChange 54 = .ok (.iconst 0, 1) := by decide +kernel
theorem dX0_endChange_55 : decode cX0_endChange 55 = .ok (.putfield 134, 3) := by decide +kernel
theorem dX0_endChange_58 : decode cX0_endChange 58 = .ok (.aload_n 0, 1) := by decide +kernel
theorem dX0_endChange_59 : decode cX0_endChange 59 = .ok (.iconst 0, 1) := by decide +kernel
theorem dX0_endChange_60 : decode cX0_endChange 60 = .ok (.putfield 34, 3) := by decide +kernel
theorem dX0_endChange_63 : decode cX0_endChange 63 = .ok (.return_, 1) := by decide +kernel
theorem dJ9_max_7cf53_0 : decode cJ9_max_7cf53 0 = .ok (.iload_n 0, 1) := by decide +kernel
theorem dJ9_max_7cf53_1 : decode cJ9_max_7cf53 1 = .ok (.iload_n 1, 1) := by decide +kernel
theorem dJ9_max_7cf53_2 : decode cJ9_max_7cf53 2 = .ok (.if_icmp .lt 7, 3) := by decide +kernel
theorem dJ9_max_7cf53_5 : decode cJ9_max_7cf53 5 = .ok (.iload_n 0, 1) := by decide +kernel
theorem dJ9_max_7cf53_6 : decode cJ9_max_7cf53 6 = .ok (.goto 4, 3) := by decide +kernel
theorem dJ9_max_7cf53_9 : decode cJ9_max_7cf53 9 = .ok (.iload_n 1, 1) := by decide +kernel
theorem dJ9_max_7cf53_10 : decode cJ9_max_7cf53 10 = .ok (.ireturn, 1) := by decide +kernel
theorem dJ9_min_7cf53_0 : decode cJ9_min_7cf53 0 = .ok (.iload_n 0, 1) := by decide +kernel
theorem dJ9_min_7cf53_1 : decode cJ9_min_7cf53 1 = .ok (.iload_n 1, 1) := by decide +kernel
theorem dJ9_min_7cf53_2 : decode cJ9_min_7cf53 2 = .ok (.if_icmp .gt 7, 3) := by decide +kernel
theorem dJ9_min_7cf53_5 : decode cJ9_min_7cf53 5 = .ok (.iload_n 0, 1) := by decide +kernel
theorem dJ9_min_7cf53_6 : decode cJ9_min_7cf53 6 = .ok (.goto 4, 3) := by decide +kernel
theorem dJ9_min_7cf53_9 : decode cJ9_min_7cf53 9 = .ok (.iload_n 1, 1) := by decide +kernel
theorem dJ9_min_7cf53_10 : decode cJ9_min_7cf53 10 = .ok (.ireturn, 1) := by decide +kernel
theorem dJ7_fill_53178_0 : decode cJ7_fill_53178 0 = .ok (.iconst 0, 1) := by decide +kernel
theorem dJ7_fill_53178_1 : decode cJ7_fill_53178 1 = .ok (.istore_n 2, 1) := by decide +kernel
theorem dJ7_fill_53178_2 : decode cJ7_fill_53178 2 = .ok (.aload_n 0, 1) := by decide +kernel
theorem dJ7_fill_53178_3 : decode cJ7_fill_53178 3 = .ok (.arraylength, 1) := by decide +kernel
theorem dJ7_fill_53178_4 : decode cJ7_fill_53178 4 = .ok (.istore_n 3, 1) := by decide +kernel
theorem dJ7_fill_53178_5 : decode cJ7_fill_53178 5 = .ok (.iload_n 2, 1) := by decide +kernel
theorem dJ7_fill_53178_6 : decode cJ7_fill_53178 6 = .ok (.iload_n 3, 1) := by decide +kernel
theorem dJ7_fill_53178_7 : decode cJ7_fill_53178 7 = .ok (.if_icmp .ge 13, 3) := by decide +kernel
theorem dJ7_fill_53178_10 : decode cJ7_fill_53178 10 = .ok (.aload_n 0, 1) := by decide +kernel
theorem dJ7_fill_53178_11 : decode cJ7_fill_53178 11 = .ok (.iload_n 2, 1) := by decide +kernel
theorem dJ7_fill_53178_12 : decode cJ7_fill_53178 12 = .ok (.iload_n 1, 1) := by decide +kernel
theorem dJ7_fill_53178_13 : decode cJ7_fill_53178 13 = .ok (.iastore, 1) := by decide +kernel
theorem dJ7_fill_53178_14 : decode cJ7_fill_53178 14 = .ok (.iinc 2 1, 3) := by decide +kernel
theorem dJ7_fill_53178_17 : decode cJ7_fill_53178 17 = .ok (.goto (-12), 3) := by decide +kernel
theorem dJ7_fill_53178_20 : decode cJ7_fill_53178 20 = .ok (.return_, 1) := by decide +kernel
