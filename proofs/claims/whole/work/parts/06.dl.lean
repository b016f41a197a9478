theorem dJ9_max_7cf53_0 : decode cJ9_max_7cf53 0 = .ok (.iload_n 0, 1) := by decide +kernel
theorem dJ9_max_7cf53_1 : decode cJ9_max_7cf53 1 = .ok (.iload_n 1, 1) := by decide +kernel
theorem dJ9_max_7cf53_2 : decode cJ9_max_7cf53 2 = .ok (.if_icmp .lt 7, 3) := by decide +kernel
theorem dJ9_max_7cf53_5 : decode cJ9_max_7cf53 5 = .ok (.iload_n 0, 1) := by decide +kernel
theorem dJ9_max_7cf53_6 : decode cJ9_max_7cf53 6 = .ok (.goto 4, 3) := by decide +kernel
theorem dJ9_max_7cf53_9 : decode cJ9_max_7cf53 9 = .ok (.iload_n 1, 1) := by decide +kernel
theorem dJ9_max_7cf53_10 : decode cJ9_max_7cf53 10 = .ok (.ireturn, 1) := by decide +kernel
theorem dJ9_min_7cf53_0 : decode cJ9_min_7cf53 0 = .ok (.iload_n 0, 1) := by decide +kernel
theorem dJ9_min_7cf53_1 : decode cJ9_min_7cf53 1 = .ok (.iload_n 1, 1) := by decide +kernel
theorem dJ9_min_7cf53_2 : decode cJ9_min_7cf53 2 = .ok (.if_icmp .gt 7, 3) := by decide +kernel
theorem dJ9_min_7cf53_5 : decode cJ9_min_7cf53 5 = .ok (.iload_n 0, 1) := by decide +kernel
theorem dJ9_min_7cf53_6 : decode cJ9_min_7cf53 6 = .ok (.goto 4, 3) := by decide +kernel
theorem dJ9_min_7cf53_9 : decode cJ9_min_7cf53 9 = .ok (.iload_n 1, 1) := by decide +kernel
theorem dJ9_min_7cf53_10 : decode cJ9_min_7cf53 10 = .ok (.ireturn, 1) := by decide +kernel
theorem dJ7_fill_53178_0 : decode cJ7_fill_53178 0 = .ok (.iconst 0, 1) := by decide +kernel
theorem dJ7_fill_53178_1 : decode cJ7_fill_53178 1 = .ok (.istore_n 2, 1) := by decide +kernel
theorem dJ7_fill_53178_2 : decode cJ7_fill_53178 2 = .ok (.aload_n 0, 1) := by decide +kernel
theorem dJ7_fill_53178_3 : decode cJ7_fill_53178 3 = .ok (.arraylength, 1) := by decide +kernel
theorem dJ7_fill_53178_4 : decode cJ7_fill_53178 4 = .ok (.istore_n 3, 1) := by decide +kernel
theorem dJ7_fill_53178_5 : decode cJ7_fill_53178 5 = .ok (.iload_n 2, 1) := by decide +kernel
theorem dJ7_fill_53178_6 : decode cJ7_fill_53178 6 = .ok (.iload_n 3, 1) := by decide +kernel
theorem dJ7_fill_53178_7 : decode cJ7_fill_53178 7 = .ok (.if_icmp .ge 13, 3) := by decide +kernel
theorem dJ7_fill_53178_10 : decode cJ7_fill_53178 10 = .ok (.aload_n 0, 1) := by decide +kernel
theorem dJ7_fill_53178_11 : decode cJ7_fill_53178 11 = .ok (.iload_n 2, 1) := by decide +kernel
theorem dJ7_fill_53178_12 : decode cJ7_fill_53178 12 = .ok (.iload_n 1, 1) := by decide +kernel
theorem dJ7_fill_53178_13 : decode cJ7_fill_53178 13 = .ok (.iastore, 1) := by decide +kernel
theorem dJ7_fill_53178_14 : decode cJ7_fill_53178 14 = .ok (.iinc 2 1, 3) := by decide +kernel
theorem dJ7_fill_53178_17 : decode cJ7_fill_53178 17 = .ok (.goto (-12), 3) := by decide +kernel
theorem dJ7_fill_53178_20 : decode cJ7_fill_53178 20 = .ok (.return_, 1) := by decide +kernel
theorem dL_insert_0 : decode cL_insert 0 = .ok (.aload_n 0, 1) := by decide +kernel
theorem dL_insert_1 : decode cL_insert 1 = .ok (.iload_n 1, 1) := by decide +kernel
theorem dL_insert_2 : decode cL_insert 2 = .ok (.iload_n 2, 1) := by decide +kernel
theorem dL_insert_3 : decode cL_insert 3 = .ok (.iload_n 3, 1) := by decide +kernel
theorem dL_insert_4 : decode cL_insert 4 = .ok (.invokevirtual 7, 3) := by decide +kernel
theorem dL_insert_7 : decode cL_insert 7 = .ok (.goto 15, 3) := by decide +kernel
theorem dL_insert_10 : decode cL_insert 10 = .ok (.astore 4, 2) := by decide +kernel
theorem dL_insert_12 : decode cL_insert 12 = .ok (.iconst 1, 1) := by decide +kernel
theorem dL_insert_13 : decode cL_insert 13 = .ok (.ireturn, 1) := by decide +kernel
theorem dL_insert_14 : decode cL_insert 14 = .ok (.astore 4, 2) := by decide +kernel
theorem dL_insert_16 : decode cL_insert 16 = .ok (.iconst 2, 1) := by decide +kernel
theorem dL_insert_17 : decode cL_insert 17 = .ok (.ireturn, 1) := by decide +kernel
theorem dL_insert_18 : decode cL_insert 18 = .ok (.astore 4, 2) := by decide +kernel
theorem dL_insert_20 : decode cL_insert 20 = .ok (.iconst 3, 1) := by decide +kernel
theorem dL_insert_21 : decode cL_insert 21 = .ok (.ireturn, 1) := by decide +kernel
theorem dL_insert_22 : decode cL_insert 22 = .ok (.iconst 0, 1) := by decide +kernel
theorem dL_insert_23 : decode cL_insert 23 = .ok (.ireturn, 1) := by decide +kernel
theorem dL_update_0 : decode cL_update 0 = .ok (.aload_n 0, 1) := by decide +kernel
theorem dL_update_1 : decode cL_update 1 = .ok (.iload_n 1, 1) := by decide +kernel
theorem dL_update_2 : decode cL_update 2 = .ok (.iload_n 2, 1) := by decide +kernel
theorem dL_update_3 : decode cL_update 3 = .ok (.iload_n 3, 1) := by decide +kernel
theorem dL_update_4 : decode cL_update 4 = .ok (.invokevirtual 19, 3) := by decide +kernel
theorem dL_update_7 : decode cL_update 7 = .ok (.goto 15, 3) := by decide +kernel
theorem dL_update_10 : decode cL_update 10 = .ok (.astore 4, 2) := by decide +kernel
theorem dL_update_12 : decode cL_update 12 = .ok (.iconst 1, 1) := by decide +kernel
theorem dL_update_13 : decode cL_update 13 = .ok (.ireturn, 1) := by decide +kernel
theorem dL_update_14 : decode cL_update 14 = .ok (.astore 4, 2) := by decide +kernel
theorem dL_update_16 : decode cL_update 16 = .ok (.iconst 2, 1) := by decide +kernel
theorem dL_update_17 : decode cL_update 17 = .ok (.ireturn, 1) := by decide +kernel
theorem dL_update_18 : decode cL_update 18 = .ok (.astore 4, 2) := by decide +kernel
theorem dL_update_20 : decode cL_update 20 = .ok (.iconst 3, 1) := by decide +kernel
theorem dL_update_21 : decode cL_update 21 = .ok (.ireturn, 1) := by decide +kernel
theorem dL_update_22 : decode cL_update 22 = .ok (.iconst 0, 1) := by decide +kernel
theorem dL_update_23 : decode cL_update 23 = .ok (.ireturn, 1) := by decide +kernel
theorem dL_delete_0 : decode cL_delete 0 = .ok (.aload_n 2, 1) := by decide +kernel
theorem dL_delete_1 : decode cL_delete 1 = .ok (.iconst 0, 1) := by decide +kernel
theorem dL_delete_2 : decode cL_delete 2 = .ok (.aload_n 0, 1) := by decide +kernel
theorem dL_delete_3 : decode cL_delete 3 = .ok (.iload_n 1, 1) := by decide +kernel
theorem dL_delete_4 : decode cL_delete 4 = .ok (.invokevirtual 24, 3) := by decide +kernel
theorem dL_delete_7 : decode cL_delete 7 = .ok (.i2l, 1) := by decide +kernel
theorem dL_delete_8 : decode cL_delete 8 = .ok (.lastore, 1) := by decide +kernel
theorem dL_delete_9 : decode cL_delete 9 = .ok (.goto 9, 3) := by decide +kernel
theorem dL_delete_12 : decode cL_delete 12 = .ok (.astore_n 3, 1) := by decide +kernel
theorem dL_delete_13 : decode cL_delete 13 = .ok (.iconst 1, 1) := by decide +kernel
theorem dL_delete_14 : decode cL_delete 14 = .ok (.ireturn, 1) := by decide +kernel
theorem dL_delete_15 : decode cL_delete 15 = .ok (.astore_n 3, 1) := by decide +kernel
theorem dL_delete_16 : decode cL_delete 16 = .ok (.iconst 2, 1) := by decide +kernel
theorem dL_delete_17 : decode cL_delete 17 = .ok (.ireturn, 1) := by decide +kernel
theorem dL_delete_18 : decode cL_delete 18 = .ok (.iconst 0, 1) := by decide +kernel
theorem dL_delete_19 : decode cL_delete 19 = .ok (.ireturn, 1) := by decide +kernel
theorem dL_rekey_0 : decode cL_rekey 0 = .ok (.aload_n 0, 1) := by decide +kernel
theorem dL_rekey_1 : decode cL_rekey 1 = .ok (.iload_n 1, 1) := by decide +kernel
theorem dL_rekey_2 : decode cL_rekey 2 = .ok (.iload_n 2, 1) := by decide +kernel
theorem dL_rekey_3 : decode cL_rekey 3 = .ok (.invokevirtual 28, 3) := by decide +kernel
theorem dL_rekey_6 : decode cL_rekey 6 = .ok (.goto 15, 3) := by decide +kernel
theorem dL_rekey_9 : decode cL_rekey 9 = .ok (.astore_n 3, 1) := by decide +kernel
theorem dL_rekey_10 : decode cL_rekey 10 = .ok (.iconst 1, 1) := by decide +kernel
theorem dL_rekey_11 : decode cL_rekey 11 = .ok (.ireturn, 1) := by decide +kernel
theorem dL_rekey_12 : decode cL_rekey 12 = .ok (.astore_n 3, 1) := by decide +kernel
theorem dL_rekey_13 : decode cL_rekey 13 = .ok (.iconst 2, 1) := by decide +kernel
theorem dL_rekey_14 : decode cL_rekey 14 = .ok (.ireturn, 1) := by decide +kernel
theorem dL_rekey_15 : decode cL_rekey 15 = .ok (.astore_n 3, 1) := by decide +kernel
theorem dL_rekey_16 : decode cL_rekey 16 = .ok (.iconst 3, 1) := by decide +kernel
theorem dL_rekey_17 : decode cL_rekey 17 = .ok (.ireturn, 1) := by decide +kernel
theorem dL_rekey_18 : decode cL_rekey 18 = .ok (.astore_n 3, 1) := by decide +kernel
theorem dL_rekey_19 : decode cL_rekey 19 = .ok (.iconst 4, 1) := by decide +kernel
theorem dL_rekey_20 : decode cL_rekey 20 = .ok (.ireturn, 1) := by decide +kernel
theorem dL_rekey_21 : decode cL_rekey 21 = .ok (.iconst 0, 1) := by decide +kernel
theorem dL_rekey_22 : decode cL_rekey 22 = .ok (.ireturn, 1) := by decide +kernel
theorem dL_start_0 : decode cL_start 0 = .ok (.aload_n 0, 1) := by decide +kernel
theorem dL_start_1 : decode cL_start 1 = .ok (.iload_n 1, 1) := by decide +kernel
theorem dL_start_2 : decode cL_start 2 = .ok (.iload_n 2, 1) := by decide +kernel
theorem dL_start_3 : decode cL_start 3 = .ok (.invokevirtual 32, 3) := by decide +kernel
theorem dL_start_6 : decode cL_start 6 = .ok (.goto 9, 3) := by decide +kernel
theorem dL_start_9 : decode cL_start 9 = .ok (.astore_n 3, 1) := by decide +kernel
theorem dL_start_10 : decode cL_start 10 = .ok (.iconst 1, 1) := by decide +kernel
theorem dL_start_11 : decode cL_start 11 = .ok (.ireturn, 1) := by decide +kernel
theorem dL_start_12 : decode cL_start 12 = .ok (.astore_n 3, 1) := by decide +kernel
theorem dL_start_13 : decode cL_start 13 = .ok (.iconst 2, 1) := by decide +kernel
theorem dL_start_14 : decode cL_start 14 = .ok (.ireturn, 1) := by decide +kernel
theorem dL_start_15 : decode cL_start 15 = .ok (.iconst 0, 1) := by decide +kernel
theorem dL_start_16 : decode cL_start 16 = .ok (.ireturn, 1) := by decide +kernel
theorem dL_setPace_0 : decode cL_setPace 0 = .ok (.aload_n 0, 1) := by decide +kernel
theorem dL_setPace_1 : decode cL_setPace 1 = .ok (.iload_n 1, 1) := by decide +kernel
theorem dL_setPace_2 : decode cL_setPace 2 = .ok (.iload_n 2, 1) := by decide +kernel
theorem dL_setPace_3 : decode cL_setPace 3 = .ok (.invokevirtual 35, 3) := by decide +kernel
theorem dL_setPace_6 : decode cL_setPace 6 = .ok (.goto 6, 3) := by decide +kernel
theorem dL_setPace_9 : decode cL_setPace 9 = .ok (.astore_n 3, 1) := by decide +kernel
theorem dL_setPace_10 : decode cL_setPace 10 = .ok (.iconst 1, 1) := by decide +kernel
theorem dL_setPace_11 : decode cL_setPace 11 = .ok (.ireturn, 1) := by decide +kernel
theorem dL_setPace_12 : decode cL_setPace 12 = .ok (.iconst 0, 1) := by decide +kernel
theorem dL_setPace_13 : decode cL_setPace 13 = .ok (.ireturn, 1) := by decide +kernel
theorem dL_tick_0 : decode cL_tick 0 = .ok (.aload_n 2, 1) := by decide +kernel
theorem dL_tick_1 : decode cL_tick 1 = .ok (.iconst 0, 1) := by decide +kernel
theorem dL_tick_2 : decode cL_tick 2 = .ok (.aload_n 0, 1) := by decide +kernel
theorem dL_tick_3 : decode cL_tick 3 = .ok (.iload_n 1, 1) := by decide +kernel
theorem dL_tick_4 : decode cL_tick 4 = .ok (.invokevirtual 38, 3) := by decide +kernel
theorem dL_tick_7 : decode cL_tick 7 = .ok (.i2l, 1) := by decide +kernel
theorem dL_tick_8 : decode cL_tick 8 = .ok (.lastore, 1) := by decide +kernel
theorem dL_tick_9 : decode cL_tick 9 = .ok (.goto 9, 3) := by decide +kernel
theorem dL_tick_12 : decode cL_tick 12 = .ok (.astore_n 3, 1) := by decide +kernel
theorem dL_tick_13 : decode cL_tick 13 = .ok (.iconst 1, 1) := by decide +kernel
theorem dL_tick_14 : decode cL_tick 14 = .ok (.ireturn, 1) := by decide +kernel
theorem dL_tick_15 : decode cL_tick 15 = .ok (.astore_n 3, 1) := by decide +kernel
theorem dL_tick_16 : decode cL_tick 16 = .ok (.iconst 2, 1) := by decide +kernel
theorem dL_tick_17 : decode cL_tick 17 = .ok (.ireturn, 1) := by decide +kernel
theorem dL_tick_18 : decode cL_tick 18 = .ok (.iconst 0, 1) := by decide +kernel
theorem dL_tick_19 : decode cL_tick 19 = .ok (.ireturn, 1) := by decide +kernel
theorem dL_cutOver_0 : decode cL_cutOver 0 = .ok (.aload_n 2, 1) := by decide +kernel
theorem dL_cutOver_1 : decode cL_cutOver 1 = .ok (.iconst 0, 1) := by decide +kernel
theorem dL_cutOver_2 : decode cL_cutOver 2 = .ok (.aload_n 0, 1) := by decide +kernel
theorem dL_cutOver_3 : decode cL_cutOver 3 = .ok (.iload_n 1, 1) := by decide +kernel
theorem dL_cutOver_4 : decode cL_cutOver 4 = .ok (.invokevirtual 41, 3) := by decide +kernel
theorem dL_cutOver_7 : decode cL_cutOver 7 = .ok (.i2l, 1) := by decide +kernel
theorem dL_cutOver_8 : decode cL_cutOver 8 = .ok (.lastore, 1) := by decide +kernel
theorem dL_cutOver_9 : decode cL_cutOver 9 = .ok (.goto 9, 3) := by decide +kernel
theorem dL_cutOver_12 : decode cL_cutOver 12 = .ok (.astore_n 3, 1) := by decide +kernel
theorem dL_cutOver_13 : decode cL_cutOver 13 = .ok (.iconst 1, 1) := by decide +kernel
theorem dL_cutOver_14 : decode cL_cutOver 14 = .ok (.ireturn, 1) := by decide +kernel
theorem dL_cutOver_15 : decode cL_cutOver 15 = .ok (.astore_n 3, 1) := by decide +kernel
theorem dL_cutOver_16 : decode cL_cutOver 16 = .ok (.iconst 2, 1) := by decide +kernel
theorem dL_cutOver_17 : decode cL_cutOver 17 = .ok (.ireturn, 1) := by decide +kernel
theorem dL_cutOver_18 : decode cL_cutOver 18 = .ok (.iconst 0, 1) := by decide +kernel
theorem dL_cutOver_19 : decode cL_cutOver 19 = .ok (.ireturn, 1) := by decide +kernel
theorem dL_undo_0 : decode cL_undo 0 = .ok (.aload_n 0, 1) := by decide +kernel
theorem dL_undo_1 : decode cL_undo 1 = .ok (.invokevirtual 44, 3) := by decide +kernel
theorem dL_undo_4 : decode cL_undo 4 = .ok (.goto 6, 3) := by decide +kernel
theorem dL_undo_7 : decode cL_undo 7 = .ok (.astore_n 1, 1) := by decide +kernel
theorem dL_undo_8 : decode cL_undo 8 = .ok (.iconst 1, 1) := by decide +kernel
theorem dL_undo_9 : decode cL_undo 9 = .ok (.ireturn, 1) := by decide +kernel
theorem dL_undo_10 : decode cL_undo 10 = .ok (.iconst 0, 1) := by decide +kernel
theorem dL_undo_11 : decode cL_undo 11 = .ok (.ireturn, 1) := by decide +kernel
theorem dL_finish_0 : decode cL_finish 0 = .ok (.aload_n 1, 1) := by decide +kernel
theorem dL_finish_1 : decode cL_finish 1 = .ok (.iconst 0, 1) := by decide +kernel
theorem dL_finish_2 : decode cL_finish 2 = .ok (.aload_n 0, 1) := by decide +kernel
theorem dL_finish_3 : decode cL_finish 3 = .ok (.invokevirtual 47, 3) := by decide +kernel
theorem dL_finish_6 : decode cL_finish 6 = .ok (.i2l, 1) := by decide +kernel
theorem dL_finish_7 : decode cL_finish 7 = .ok (.lastore, 1) := by decide +kernel
theorem dL_finish_8 : decode cL_finish 8 = .ok (.goto 6, 3) := by decide +kernel
theorem dL_finish_11 : decode cL_finish 11 = .ok (.astore_n 2, 1) := by decide +kernel
theorem dL_finish_12 : decode cL_finish 12 = .ok (.iconst 1, 1) := by decide +kernel
theorem dL_finish_13 : decode cL_finish 13 = .ok (.ireturn, 1) := by decide +kernel
theorem dL_finish_14 : decode cL_finish 14 = .ok (.iconst 0, 1) := by decide +kernel
theorem dL_finish_15 : decode cL_finish 15 = .ok (.ireturn, 1) := by decide +kernel
theorem dL_giveUp_0 : decode cL_giveUp 0 = .ok (.aload_n 1, 1) := by decide +kernel
theorem dL_giveUp_1 : decode cL_giveUp 1 = .ok (.iconst 0, 1) := by decide +kernel
theorem dL_giveUp_2 : decode cL_giveUp 2 = .ok (.aload_n 0, 1) := by decide +kernel
theorem dL_giveUp_3 : decode cL_giveUp 3 = .ok (.invokevirtual 51, 3) := by decide +kernel
theorem dL_giveUp_6 : decode cL_giveUp 6 = .ok (.i2l, 1) := by decide +kernel
theorem dL_giveUp_7 : decode cL_giveUp 7 = .ok (.lastore, 1) := by decide +kernel
theorem dL_giveUp_8 : decode cL_giveUp 8 = .ok (.goto 6, 3) := by decide +kernel
theorem dL_giveUp_11 : decode cL_giveUp 11 = .ok (.astore_n 2, 1) := by decide +kernel
theorem dL_giveUp_12 : decode cL_giveUp 12 = .ok (.iconst 1, 1) := by decide +kernel
theorem dL_giveUp_13 : decode cL_giveUp 13 = .ok (.ireturn, 1) := by decide +kernel
theorem dL_giveUp_14 : decode cL_giveUp 14 = .ok (.iconst 0, 1) := by decide +kernel
theorem dL_giveUp_15 : decode cL_giveUp 15 = .ok (.ireturn, 1) := by decide +kernel
theorem dL_row_0 : decode cL_row 0 = .ok (.aload_n 2, 1) := by decide +kernel
theorem dL_row_1 : decode cL_row 1 = .ok (.iconst 0, 1) := by decide +kernel
theorem dL_row_2 : decode cL_row 2 = .ok (.aload_n 0, 1) := by decide +kernel
theorem dL_row_3 : decode cL_row 3 = .ok (.iload_n 1, 1) := by decide +kernel
theorem dL_row_4 : decode cL_row 4 = .ok (.invokevirtual 54, 3) := by decide +kernel
theorem dL_row_7 : decode cL_row 7 = .ok (.i2l, 1) := by decide +kernel
theorem dL_row_8 : decode cL_row 8 = .ok (.lastore, 1) := by decide +kernel
theorem dL_row_9 : decode cL_row 9 = .ok (.goto 6, 3) := by decide +kernel
theorem dL_row_12 : decode cL_row 12 = .ok (.astore_n 3, 1) := by decide +kernel
theorem dL_row_13 : decode cL_row 13 = .ok (.iconst 1, 1) := by decide +kernel
theorem dL_row_14 : decode cL_row 14 = .ok (.ireturn, 1) := by decide +kernel
theorem dL_row_15 : decode cL_row 15 = .ok (.iconst 0, 1) := by decide +kernel
theorem dL_row_16 : decode cL_row 16 = .ok (.ireturn, 1) := by decide +kernel
theorem dL_shadow_0 : decode cL_shadow 0 = .ok (.aload_n 3, 1) := by decide +kernel
theorem dL_shadow_1 : decode cL_shadow 1 = .ok (.iconst 0, 1) := by decide +kernel
theorem dL_shadow_2 : decode cL_shadow 2 = .ok (.aload_n 0, 1) := by decide +kernel
theorem dL_shadow_3 : decode cL_shadow 3 = .ok (.iload_n 1, 1) := by decide +kernel
theorem dL_shadow_4 : decode cL_shadow 4 = .ok (.iload_n 2, 1) := by decide +kernel
theorem dL_shadow_5 : decode cL_shadow 5 = .ok (.invokevirtual 57, 3) := by decide +kernel
theorem dL_shadow_8 : decode cL_shadow 8 = .ok (.i2l, 1) := by decide +kernel
theorem dL_shadow_9 : decode cL_shadow 9 = .ok (.lastore, 1) := by decide +kernel
theorem dL_shadow_10 : decode cL_shadow 10 = .ok (.goto 7, 3) := by decide +kernel
theorem dL_shadow_13 : decode cL_shadow 13 = .ok (.astore 4, 2) := by decide +kernel
theorem dL_shadow_15 : decode cL_shadow 15 = .ok (.iconst 1, 1) := by decide +kernel
theorem dL_shadow_16 : decode cL_shadow 16 = .ok (.ireturn, 1) := by decide +kernel
theorem dL_shadow_17 : decode cL_shadow 17 = .ok (.iconst 0, 1) := by decide +kernel
theorem dL_shadow_18 : decode cL_shadow 18 = .ok (.ireturn, 1) := by decide +kernel
theorem dL_isRefused_0 : decode cL_isRefused 0 = .ok (.aload_n 2, 1) := by decide +kernel
theorem dL_isRefused_1 : decode cL_isRefused 1 = .ok (.iconst 0, 1) := by decide +kernel
theorem dL_isRefused_2 : decode cL_isRefused 2 = .ok (.aload_n 0, 1) := by decide +kernel
theorem dL_isRefused_3 : decode cL_isRefused 3 = .ok (.iload_n 1, 1) := by decide +kernel
theorem dL_isRefused_4 : decode cL_isRefused 4 = .ok (.invokevirtual 61, 3) := by decide +kernel
theorem dL_isRefused_7 : decode cL_isRefused 7 = .ok (.ifCond .eq 7, 3) := by decide +kernel
theorem dL_isRefused_10 : decode cL_isRefused 10 = .ok (.lconst 1, 1) := by decide +kernel
theorem dL_isRefused_11 : decode cL_isRefused 11 = .ok (.goto 4, 3) := by decide +kernel
theorem dL_isRefused_14 : decode cL_isRefused 14 = .ok (.lconst 0, 1) := by decide +kernel
theorem dL_isRefused_15 : decode cL_isRefused 15 = .ok (.lastore, 1) := by decide +kernel
theorem dL_isRefused_16 : decode cL_isRefused 16 = .ok (.goto 6, 3) := by decide +kernel
theorem dL_isRefused_19 : decode cL_isRefused 19 = .ok (.astore_n 3, 1) := by decide +kernel
theorem dL_isRefused_20 : decode cL_isRefused 20 = .ok (.iconst 1, 1) := by decide +kernel
theorem dL_isRefused_21 : decode cL_isRefused 21 = .ok (.ireturn, 1) := by decide +kernel
theorem dL_isRefused_22 : decode cL_isRefused 22 = .ok (.iconst 0, 1) := by decide +kernel
theorem dL_isRefused_23 : decode cL_isRefused 23 = .ok (.ireturn, 1) := by decide +kernel
theorem dL_sum_0 : decode cL_sum 0 = .ok (.aload_n 2, 1) := by decide +kernel
theorem dL_sum_1 : decode cL_sum 1 = .ok (.iconst 0, 1) := by decide +kernel
theorem dL_sum_2 : decode cL_sum 2 = .ok (.aload_n 0, 1) := by decide +kernel
theorem dL_sum_3 : decode cL_sum 3 = .ok (.iload_n 1, 1) := by decide +kernel
theorem dL_sum_4 : decode cL_sum 4 = .ok (.invokevirtual 65, 3) := by decide +kernel
theorem dL_sum_7 : decode cL_sum 7 = .ok (.i2l, 1) := by decide +kernel
theorem dL_sum_8 : decode cL_sum 8 = .ok (.lastore, 1) := by decide +kernel
theorem dL_sum_9 : decode cL_sum 9 = .ok (.goto 6, 3) := by decide +kernel
theorem dL_sum_12 : decode cL_sum 12 = .ok (.astore_n 3, 1) := by decide +kernel
theorem dL_sum_13 : decode cL_sum 13 = .ok (.iconst 1, 1) := by decide +kernel
theorem dL_sum_14 : decode cL_sum 14 = .ok (.ireturn, 1) := by decide +kernel
theorem dL_sum_15 : decode cL_sum 15 = .ok (.iconst 0, 1) := by decide +kernel
theorem dL_sum_16 : decode cL_sum 16 = .ok (.ireturn, 1) := by decide +kernel
theorem dL_sumAtOnce_0 : decode cL_sumAtOnce 0 = .ok (.aload_n 2, 1) := by decide +kernel
theorem dL_sumAtOnce_1 : decode cL_sumAtOnce 1 = .ok (.iconst 0, 1) := by decide +kernel
theorem dL_sumAtOnce_2 : decode cL_sumAtOnce 2 = .ok (.aload_n 0, 1) := by decide +kernel
theorem dL_sumAtOnce_3 : decode cL_sumAtOnce 3 = .ok (.iload_n 1, 1) := by decide +kernel
theorem dL_sumAtOnce_4 : decode cL_sumAtOnce 4 = .ok (.invokevirtual 68, 3) := by decide +kernel
theorem dL_sumAtOnce_7 : decode cL_sumAtOnce 7 = .ok (.i2l, 1) := by decide +kernel
theorem dL_sumAtOnce_8 : decode cL_sumAtOnce 8 = .ok (.lastore, 1) := by decide +kernel
theorem dL_sumAtOnce_9 : decode cL_sumAtOnce 9 = .ok (.goto 6, 3) := by decide +kernel
theorem dL_sumAtOnce_12 : decode cL_sumAtOnce 12 = .ok (.astore_n 3, 1) := by decide +kernel
theorem dL_sumAtOnce_13 : decode cL_sumAtOnce 13 = .ok (.iconst 1, 1) := by decide +kernel
theorem dL_sumAtOnce_14 : decode cL_sumAtOnce 14 = .ok (.ireturn, 1) := by decide +kernel
theorem dL_sumAtOnce_15 : decode cL_sumAtOnce 15 = .ok (.iconst 0, 1) := by decide +kernel
theorem dL_sumAtOnce_16 : decode cL_sumAtOnce 16 = .ok (.ireturn, 1) := by decide +kernel
