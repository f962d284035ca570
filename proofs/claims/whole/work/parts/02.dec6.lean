theorem dX6_strikeFor_22 : decode cX6_strikeFor 22 = .ok (.iconst 1, 1) := by decide +kernel
theorem dX6_strikeFor_23 : decode cX6_strikeFor 23 = .ok (.istore_n 2, 1) := by decide +kernel
theorem dX6_strikeFor_24 : decode cX6_strikeFor 24 = .ok (.iload_n 2, 1) := by decide +kernel
theorem dX6_strikeFor_25 : decode cX6_strikeFor 25 = .ok (.bipush 9, 2) := by decide +kernel
theorem dX6_strikeFor_27 : decode cX6_strikeFor 27 = .ok (.if_icmp .gt 23, 3) := by decide +kernel
theorem dX6_strikeFor_30 : decode cX6_strikeFor 30 = .ok (.aload_n 0, 1) := by decide +kernel
theorem dX6_strikeFor_31 : decode cX6_strikeFor 31 = .ok (.getfield 10, 3) := by decide +kernel
theorem dX6_strikeFor_34 : decode cX6_strikeFor 34 = .ok (.iload_n 1, 1) := by decide +kernel
theorem dX6_strikeFor_35 : decode cX6_strikeFor 35 = .ok (.iload_n 2, 1) := by decide +kernel
theorem dX6_strikeFor_36 : decode cX6_strikeFor 36 = .ok (.invokevirtual 221, 3) := by decide +kernel
theorem dX6_strikeFor_39 : decode cX6_strikeFor 39 = .ok (.ifCond .eq 5, 3) := by decide +kernel
theorem dX6_strikeFor_42 : decode cX6_strikeFor 42 = .ok (.iload_n 2, 1) := by decide +kernel
theorem dX6_strikeFor_43 : decode cX6_strikeFor 43 = .ok (.ireturn, 1) := by decide +kernel
theorem dX6_strikeFor_44 : decode cX6_strikeFor 44 = .ok (.iinc 2 1, 3) := by decide +kernel
theorem dX6_strikeFor_47 : decode cX6_strikeFor 47 = .ok (.goto (-23), 3) := by decide +kernel
theorem dX6_strikeFor_50 : decode cX6_strikeFor 50 = .ok (.bipush (-6), 2) := by decide +kernel
theorem dX6_strikeFor_52 : decode cX6_strikeFor 52 = .ok (.ireturn, 1) := by decide +kernel
theorem dX6_lasts_0 : decode cX6_lasts 0 = .ok (.iload_n 1, 1) := by decide +kernel
theorem dX6_lasts_1 : decode cX6_lasts 1 = .ok (.invokestatic 121, 3) := by decide +kernel
theorem dX6_lasts_4 : decode cX6_lasts 4 = .ok (.ifCond .ne 6, 3) := by decide +kernel
theorem dX6_lasts_7 : decode cX6_lasts 7 = .ok (.bipush (-2), 2) := by decide +kernel
theorem dX6_lasts_9 : decode cX6_lasts 9 = .ok (.ireturn, 1) := by decide +kernel
theorem dX6_lasts_10 : decode cX6_lasts 10 = .ok (.aload_n 0, 1) := by decide +kernel
theorem dX6_lasts_11 : decode cX6_lasts 11 = .ok (.getfield 10, 3) := by decide +kernel
theorem dX6_lasts_14 : decode cX6_lasts 14 = .ok (.invokevirtual 191, 3) := by decide +kernel
theorem dX6_lasts_17 : decode cX6_lasts 17 = .ok (.ifCond .eq 6, 3) := by decide +kernel
theorem dX6_lasts_20 : decode cX6_lasts 20 = .ok (.bipush (-5), 2) := by decide +kernel
theorem dX6_lasts_22 : decode cX6_lasts 22 = .ok (.ireturn, 1) := by decide +kernel
theorem dX6_lasts_23 : decode cX6_lasts 23 = .ok (.aload_n 0, 1) := by decide +kernel
theorem dX6_lasts_24 : decode cX6_lasts 24 = .ok (.getfield 10, 3) := by decide +kernel
theorem dX6_lasts_27 : decode cX6_lasts 27 = .ok (.iload_n 1, 1) := by decide +kernel
theorem dX6_lasts_28 : decode cX6_lasts 28 = .ok (.invokevirtual 224, 3) := by decide +kernel
theorem dX6_lasts_31 : decode cX6_lasts 31 = .ok (.ireturn, 1) := by decide +kernel
theorem dX6_ifWritten_0 : decode cX6_ifWritten 0 = .ok (.aload_n 0, 1) := by decide +kernel
theorem dX6_ifWritten_1 : decode cX6_ifWritten 1 = .ok (.getfield 10, 3) := by decide +kernel
theorem dX6_ifWritten_4 : decode cX6_ifWritten 4 = .ok (.iload_n 1, 1) := by decide +kernel
theorem dX6_ifWritten_5 : decode cX6_ifWritten 5 = .ok (.iload_n 2, 1) := by decide +kernel
theorem dX6_ifWritten_6 : decode cX6_ifWritten 6 = .ok (.iload_n 3, 1) := by decide +kernel
theorem dX6_ifWritten_7 : decode cX6_ifWritten 7 = .ok (.invokevirtual 91, 3) := by decide +kernel
theorem dX6_ifWritten_10 : decode cX6_ifWritten 10 = .ok (.istore 4, 2) := by decide +kernel
theorem dX6_ifWritten_12 : decode cX6_ifWritten 12 = .ok (.iload 4, 2) := by decide +kernel
theorem dX6_ifWritten_14 : decode cX6_ifWritten 14 = .ok (.ifCond .eq 6, 3) := by decide +kernel
theorem dX6_ifWritten_17 : decode cX6_ifWritten 17 = .ok (.iload 4, 2) := by decide +kernel
theorem dX6_ifWritten_19 : decode cX6_ifWritten 19 = .ok (.ireturn, 1) := by decide +kernel
theorem dX6_ifWritten_20 : decode cX6_ifWritten 20 = .ok (.aload_n 0, 1) := by decide +kernel
theorem dX6_ifWritten_21 : decode cX6_ifWritten 21 = .ok (.getfield 16, 3) := by decide +kernel
theorem dX6_ifWritten_24 : decode cX6_ifWritten 24 = .ok (.aload_n 0, 1) := by decide +kernel
theorem dX6_ifWritten_25 : decode cX6_ifWritten 25 = .ok (.getfield 10, 3) := by decide +kernel
theorem dX6_ifWritten_28 : decode cX6_ifWritten 28 = .ok (.invokevirtual 227, 3) := by decide +kernel
theorem dX6_ifWritten_31 : decode cX6_ifWritten 31 = .ok (.aload_n 0, 1) := by decide +kernel
theorem dX6_ifWritten_32 : decode cX6_ifWritten 32 = .ok (.getfield 16, 3) := by decide +kernel
theorem dX6_ifWritten_35 : decode cX6_ifWritten 35 = .ok (.iload_n 1, 1) := by decide +kernel
theorem dX6_ifWritten_36 : decode cX6_ifWritten 36 = .ok (.iload_n 2, 1) := by decide +kernel
theorem dX6_ifWritten_37 : decode cX6_ifWritten 37 = .ok (.iload_n 3, 1) := by decide +kernel
theorem dX6_ifWritten_38 : decode cX6_ifWritten 38 = .ok (.invokevirtual 95, 3) := by decide +kernel
theorem dX6_ifWritten_41 : decode cX6_ifWritten 41 = .ok (.pop, 1) := by decide +kernel
theorem dX6_ifWritten_42 : decode cX6_ifWritten 42 = .ok (.aload_n 0, 1) := by decide +kernel
theorem dX6_ifWritten_43 : decode cX6_ifWritten 43 = .ok (.getfield 22, 3) := by decide +kernel
theorem dX6_ifWritten_46 : decode cX6_ifWritten 46 = .ok (.aload_n 0, 1) := by decide +kernel
theorem dX6_ifWritten_47 : decode cX6_ifWritten 47 = .ok (.getfield 16, 3) := by decide +kernel
theorem dX6_ifWritten_50 : decode cX6_ifWritten 50 = .ok (.iload_n 1, 1) := by decide +kernel
theorem dX6_ifWritten_51 : decode cX6_ifWritten 51 = .ok (.invokevirtual 172, 3) := by decide +kernel
theorem dX6_ifWritten_54 : decode cX6_ifWritten 54 = .ok (.aload_n 0, 1) := by decide +kernel
theorem dX6_ifWritten_55 : decode cX6_ifWritten 55 = .ok (.getfield 22, 3) := by decide +kernel
theorem dX6_ifWritten_58 : decode cX6_ifWritten 58 = .ok (.getfield 176, 3) := by decide +kernel
theorem dX6_ifWritten_61 : decode cX6_ifWritten 61 = .ok (.iconst 1, 1) := by decide +kernel
theorem dX6_ifWritten_62 : decode cX6_ifWritten 62 = .ok (.if_icmp .ne 13, 3) := by decide +kernel
theorem dX6_ifWritten_65 : decode cX6_ifWritten 65 = .ok (.aload_n 0, 1) := by decide +kernel
theorem dX6_ifWritten_66 : decode cX6_ifWritten 66 = .ok (.getfield 22, 3) := by decide +kernel
theorem dX6_ifWritten_69 : decode cX6_ifWritten 69 = .ok (.getfield 179, 3) := by decide +kernel
theorem dX6_ifWritten_72 : decode cX6_ifWritten 72 = .ok (.goto 5, 3) := by decide +kernel
theorem dX6_ifWritten_75 : decode cX6_ifWritten 75 = .ok (.bipush (-6), 2) := by decide +kernel
theorem dX6_ifWritten_77 : decode cX6_ifWritten 77 = .ok (.ireturn, 1) := by decide +kernel
theorem dX6_put_0 : decode cX6_put 0 = .ok (.lload_n 1, 1) := by decide +kernel
theorem dX6_put_1 : decode cX6_put 1 = .ok (.invokestatic 230, 3) := by decide +kernel
theorem dX6_put_4 : decode cX6_put 4 = .ok (.istore_n 3, 1) := by decide +kernel
theorem dX6_put_5 : decode cX6_put 5 = .ok (.iload_n 3, 1) := by decide +kernel
theorem dX6_put_6 : decode cX6_put 6 = .ok (.ifCond .ne 6, 3) := by decide +kernel
theorem dX6_put_9 : decode cX6_put 9 = .ok (.bipush (-2), 2) := by decide +kernel
theorem dX6_put_11 : decode cX6_put 11 = .ok (.ireturn, 1) := by decide +kernel
theorem dX6_put_12 : decode cX6_put 12 = .ok (.aload_n 0, 1) := by decide +kernel
theorem dX6_put_13 : decode cX6_put 13 = .ok (.getfield 44, 3) := by decide +kernel
theorem dX6_put_16 : decode cX6_put 16 = .ok (.getfield 205, 3) := by decide +kernel
theorem dX6_put_19 : decode cX6_put 19 = .ok (.iload_n 3, 1) := by decide +kernel
theorem dX6_put_20 : decode cX6_put 20 = .ok (.iadd, 1) := by decide +kernel
theorem dX6_put_21 : decode cX6_put 21 = .ok (.bipush 80, 2) := by decide +kernel
theorem dX6_put_23 : decode cX6_put 23 = .ok (.if_icmp .le 6, 3) := by decide +kernel
theorem dX6_put_26 : decode cX6_put 26 = .ok (.bipush (-4), 2) := by decide +kernel
theorem dX6_put_28 : decode cX6_put 28 = .ok (.ireturn, 1) := by decide +kernel
theorem dX6_put_29 : decode cX6_put 29 = .ok (.aload_n 0, 1) := by decide +kernel
theorem dX6_put_30 : decode cX6_put 30 = .ok (.getfield 44, 3) := by decide +kernel
theorem dX6_put_33 : decode cX6_put 33 = .ok (.lload_n 1, 1) := by decide +kernel
theorem dX6_put_34 : decode cX6_put 34 = .ok (.iload_n 3, 1) := by decide +kernel
theorem dX6_put_35 : decode cX6_put 35 = .ok (.invokevirtual 234, 3) := by decide +kernel
theorem dX6_put_38 : decode cX6_put 38 = .ok (.aload_n 0, 1) := by decide +kernel
theorem dX6_put_39 : decode cX6_put 39 = .ok (.getfield 44, 3) := by decide +kernel
theorem dX6_put_42 : decode cX6_put 42 = .ok (.getfield 205, 3) := by decide +kernel
theorem dX6_put_45 : decode cX6_put 45 = .ok (.ireturn, 1) := by decide +kernel
theorem dX6_wipe_0 : decode cX6_wipe 0 = .ok (.aload_n 0, 1) := by decide +kernel
theorem dX6_wipe_1 : decode cX6_wipe 1 = .ok (.getfield 44, 3) := by decide +kernel
theorem dX6_wipe_4 : decode cX6_wipe 4 = .ok (.getfield 205, 3) := by decide +kernel
theorem dX6_wipe_7 : decode cX6_wipe 7 = .ok (.istore_n 1, 1) := by decide +kernel
theorem dX6_wipe_8 : decode cX6_wipe 8 = .ok (.aload_n 0, 1) := by decide +kernel
theorem dX6_wipe_9 : decode cX6_wipe 9 = .ok (.getfield 44, 3) := by decide +kernel
theorem dX6_wipe_12 : decode cX6_wipe 12 = .ok (.iconst 0, 1) := by decide +kernel
theorem dX6_wipe_13 : decode cX6_wipe 13 = .ok (.putfield 205, 3) := by decide +kernel
theorem dX6_wipe_16 : decode cX6_wipe 16 = .ok (.iload_n 1, 1) := by decide +kernel
theorem dX6_wipe_17 : decode cX6_wipe 17 = .ok (.ireturn, 1) := by decide +kernel
theorem dX6_fault_0 : decode cX6_fault 0 = .ok (.aload_n 0, 1) := by decide +kernel
theorem dX6_fault_1 : decode cX6_fault 1 = .ok (.getfield 44, 3) := by decide +kernel
theorem dX6_fault_4 : decode cX6_fault 4 = .ok (.aload_n 0, 1) := by decide +kernel
theorem dX6_fault_5 : decode cX6_fault 5 = .ok (.getfield 51, 3) := by decide +kernel
theorem dX6_fault_8 : decode cX6_fault 8 = .ok (.invokevirtual 238, 3) := by decide +kernel
theorem dX6_fault_11 : decode cX6_fault 11 = .ok (.ireturn, 1) := by decide +kernel
theorem dX6_carryOut_0 : decode cX6_carryOut 0 = .ok (.aload_n 0, 1) := by decide +kernel
theorem dX6_carryOut_1 : decode cX6_carryOut 1 = .ok (.getfield 44, 3) := by decide +kernel
theorem dX6_carryOut_4 : decode cX6_carryOut 4 = .ok (.aload_n 0, 1) := by decide +kernel
theorem dX6_carryOut_5 : decode cX6_carryOut 5 = .ok (.getfield 51, 3) := by decide +kernel
theorem dX6_carryOut_8 : decode cX6_carryOut 8 = .ok (.invokevirtual 238, 3) := by decide +kernel
theorem dX6_carryOut_11 : decode cX6_carryOut 11 = .ok (.bipush (-6), 2) := by decide +kernel
theorem dX6_carryOut_13 : decode cX6_carryOut 13 = .ok (.if_icmp .eq 6, 3) := by decide +kernel
theorem dX6_carryOut_16 : decode cX6_carryOut 16 = .ok (.bipush (-3), 2) := by decide +kernel
theorem dX6_carryOut_18 : decode cX6_carryOut 18 = .ok (.ireturn, 1) := by decide +kernel
theorem dX6_carryOut_19 : decode cX6_carryOut 19 = .ok (.aload_n 0, 1) := by decide +kernel
theorem dX6_carryOut_20 : decode cX6_carryOut 20 = .ok (.getfield 29, 3) := by decide +kernel
theorem dX6_carryOut_23 : decode cX6_carryOut 23 = .ok (.aload_n 0, 1) := by decide +kernel
theorem dX6_carryOut_24 : decode cX6_carryOut 24 = .ok (.getfield 10, 3) := by decide +kernel
theorem dX6_carryOut_27 : decode cX6_carryOut 27 = .ok (.invokevirtual 59, 3) := by decide +kernel
theorem dX6_carryOut_30 : decode cX6_carryOut 30 = .ok (.aload_n 0, 1) := by decide +kernel
theorem dX6_carryOut_31 : decode cX6_carryOut 31 = .ok (.invokevirtual 242, 3) := by decide +kernel
theorem dX6_carryOut_34 : decode cX6_carryOut 34 = .ok (.istore_n 1, 1) := by decide +kernel
theorem dX6_carryOut_35 : decode cX6_carryOut 35 = .ok (.aload_n 0, 1) := by decide +kernel
theorem dX6_carryOut_36 : decode cX6_carryOut 36 = .ok (.getfield 44, 3) := by decide +kernel
theorem dX6_carryOut_39 : decode cX6_carryOut 39 = .ok (.iconst 0, 1) := by decide +kernel
theorem dX6_carryOut_40 : decode cX6_carryOut 40 = .ok (.putfield 205, 3) := by decide +kernel
theorem dX6_carryOut_43 : decode cX6_carryOut 43 = .ok (.iload_n 1, 1) := by decide +kernel
theorem dX6_carryOut_44 : decode cX6_carryOut 44 = .ok (.ireturn, 1) := by decide +kernel
theorem dX6_undo_0 : decode cX6_undo 0 = .ok (.aload_n 0, 1) := by decide +kernel
theorem dX6_undo_1 : decode cX6_undo 1 = .ok (.getfield 29, 3) := by decide +kernel
theorem dX6_undo_4 : decode cX6_undo 4 = .ok (.aload_n 0, 1) := by decide +kernel
theorem dX6_undo_5 : decode cX6_undo 5 = .ok (.getfield 10, 3) := by decide +kernel
theorem dX6_undo_8 : decode cX6_undo 8 = .ok (.invokevirtual 245, 3) := by decide +kernel
theorem dX6_undo_11 : decode cX6_undo 11 = .ok (.ifCond .eq 13, 3) := by decide +kernel
theorem dX6_undo_14 : decode cX6_undo 14 = .ok (.aload_n 0, 1) := by decide +kernel
theorem dX6_undo_15 : decode cX6_undo 15 = .ok (.getfield 29, 3) := by decide +kernel
theorem dX6_undo_18 : decode cX6_undo 18 = .ok (.getfield 208, 3) := by decide +kernel
theorem dX6_undo_21 : decode cX6_undo 21 = .ok (.goto 5, 3) := by decide +kernel
theorem dX6_undo_24 : decode cX6_undo 24 = .ok (.bipush (-5), 2) := by decide +kernel
theorem dX6_undo_26 : decode cX6_undo 26 = .ok (.ireturn, 1) := by decide +kernel
theorem dX6_save_0 : decode cX6_save 0 = .ok (.iload_n 1, 1) := by decide +kernel
theorem dX6_save_1 : decode cX6_save 1 = .ok (.invokestatic 249, 3) := by decide +kernel
theorem dX6_save_4 : decode cX6_save 4 = .ok (.ifCond .ne 6, 3) := by decide +kernel
theorem dX6_save_7 : decode cX6_save 7 = .ok (.bipush (-2), 2) := by decide +kernel
theorem dX6_save_9 : decode cX6_save 9 = .ok (.ireturn, 1) := by decide +kernel
theorem dX6_save_10 : decode cX6_save 10 = .ok (.aload_n 0, 1) := by decide +kernel
theorem dX6_save_11 : decode cX6_save 11 = .ok (.getfield 33, 3) := by decide +kernel
theorem dX6_save_14 : decode cX6_save 14 = .ok (.iload_n 1, 1) := by decide +kernel
theorem dX6_save_15 : decode cX6_save 15 = .ok (.aaload, 1) := by decide +kernel
theorem dX6_save_16 : decode cX6_save 16 = .ok (.aload_n 0, 1) := by decide +kernel
theorem dX6_save_17 : decode cX6_save 17 = .ok (.getfield 10, 3) := by decide +kernel
theorem dX6_save_20 : decode cX6_save 20 = .ok (.invokevirtual 227, 3) := by decide +kernel
theorem dX6_save_23 : decode cX6_save 23 = .ok (.aload_n 0, 1) := by decide +kernel
theorem dX6_save_24 : decode cX6_save 24 = .ok (.getfield 37, 3) := by decide +kernel
theorem dX6_save_27 : decode cX6_save 27 = .ok (.iload_n 1, 1) := by decide +kernel
theorem dX6_save_28 : decode cX6_save 28 = .ok (.iconst 1, 1) := by decide +kernel
theorem dX6_save_29 : decode cX6_save 29 = .ok (.bastore, 1) := by decide +kernel
theorem dX6_save_30 : decode cX6_save 30 = .ok (.aload_n 0, 1) := by decide +kernel
theorem dX6_save_31 : decode cX6_save 31 = .ok (.getfield 10, 3) := by decide +kernel
theorem dX6_save_34 : decode cX6_save 34 = .ok (.invokevirtual 198, 3) := by decide +kernel
theorem dX6_save_37 : decode cX6_save 37 = .ok (.ireturn, 1) := by decide +kernel
theorem dX6_restore_0 : decode cX6_restore 0 = .ok (.iload_n 1, 1) := by decide +kernel
theorem dX6_restore_1 : decode cX6_restore 1 = .ok (.invokestatic 249, 3) := by decide +kernel
theorem dX6_restore_4 : decode cX6_restore 4 = .ok (.ifCond .ne 6, 3) := by decide +kernel
theorem dX6_restore_7 : decode cX6_restore 7 = .ok (.bipush (-2), 2) := by decide +kernel
theorem dX6_restore_9 : decode cX6_restore 9 = .ok (.ireturn, 1) := by decide +kernel
theorem dX6_restore_10 : decode cX6_restore 10 = .ok (.aload_n 0, 1) := by decide +kernel
theorem dX6_restore_11 : decode cX6_restore 11 = .ok (.getfield 37, 3) := by decide +kernel
theorem dX6_restore_14 : decode cX6_restore 14 = .ok (.iload_n 1, 1) := by decide +kernel
theorem dX6_restore_15 : decode cX6_restore 15 = .ok (.baload, 1) := by decide +kernel
theorem dX6_restore_16 : decode cX6_restore 16 = .ok (.ifCond .ne 6, 3) := by decide +kernel
theorem dX6_restore_19 : decode cX6_restore 19 = .ok (.bipush (-5), 2) := by decide +kernel
theorem dX6_restore_21 : decode cX6_restore 21 = .ok (.ireturn, 1) := by decide +kernel
theorem dX6_restore_22 : decode cX6_restore 22 = .ok (.aload_n 0, 1) := by decide +kernel
theorem dX6_restore_23 : decode cX6_restore 23 = .ok (.getfield 29, 3) := by decide +kernel
theorem dX6_restore_26 : decode cX6_restore 26 = .ok (.aload_n 0, 1) := by decide +kernel
theorem dX6_restore_27 : decode cX6_restore 27 = .ok (.getfield 10, 3) := by decide +kernel
theorem dX6_restore_30 : decode cX6_restore 30 = .ok (.invokevirtual 59, 3) := by decide +kernel
theorem dX6_restore_33 : decode cX6_restore 33 = .ok (.aload_n 0, 1) := by decide +kernel
theorem dX6_restore_34 : decode cX6_restore 34 = .ok (.getfield 10, 3) := by decide +kernel
theorem dX6_restore_37 : decode cX6_restore 37 = .ok (.aload_n 0, 1) := by decide +kernel
theorem dX6_restore_38 : decode cX6_restore 38 = .ok (.getfield 33, 3) := by decide +kernel
theorem dX6_restore_41 : decode cX6_restore 41 = .ok (.iload_n 1, 1) := by decide +kernel
theorem dX6_restore_42 : decode cX6_restore 42 = .ok (.aaload, 1) := by decide +kernel
theorem dX6_restore_43 : decode cX6_restore 43 = .ok (.invokevirtual 227, 3) := by decide +kernel
theorem dX6_restore_46 : decode cX6_restore 46 = .ok (.aload_n 0, 1) := by decide +kernel
theorem dX6_restore_47 : decode cX6_restore 47 = .ok (.getfield 10, 3) := by decide +kernel
theorem dX6_restore_50 : decode cX6_restore 50 = .ok (.invokevirtual 198, 3) := by decide +kernel
theorem dX6_restore_53 : decode cX6_restore 53 = .ok (.ireturn, 1) := by decide +kernel
theorem dX6_fieldsWithLeaders_0 : decode cX6_fieldsWithLeaders 0 = .ok (.iconst 0, 1) := by decide +kernel
theorem dX6_fieldsWithLeaders_1 : decode cX6_fieldsWithLeaders 1 = .ok (.istore_n 3, 1) := by decide +kernel
theorem dX6_fieldsWithLeaders_2 : decode cX6_fieldsWithLeaders 2 = .ok (.iconst 0, 1) := by decide +kernel
theorem dX6_fieldsWithLeaders_3 : decode cX6_fieldsWithLeaders 3 = .ok (.istore 4, 2) := by decide +kernel
theorem dX6_fieldsWithLeaders_5 : decode cX6_fieldsWithLeaders 5 = .ok (.iload 4, 2) := by decide +kernel
theorem dX6_fieldsWithLeaders_7 : decode cX6_fieldsWithLeaders 7 = .ok (.bipush 10, 2) := by decide +kernel
theorem dX6_fieldsWithLeaders_9 : decode cX6_fieldsWithLeaders 9 = .ok (.if_icmp .ge 44, 3) := by decide +kernel
theorem dX6_fieldsWithLeaders_12 : decode cX6_fieldsWithLeaders 12 = .ok (.aload_n 0, 1) := by decide +kernel
theorem dX6_fieldsWithLeaders_13 : decode cX6_fieldsWithLeaders 13 = .ok (.getfield 22, 3) := by decide +kernel
theorem dX6_fieldsWithLeaders_16 : decode cX6_fieldsWithLeaders 16 = .ok (.aload_n 0, 1) := by decide +kernel
theorem dX6_fieldsWithLeaders_17 : decode cX6_fieldsWithLeaders 17 = .ok (.getfield 10, 3) := by decide +kernel
theorem dX6_fieldsWithLeaders_20 : decode cX6_fieldsWithLeaders 20 = .ok (.iload 4, 2) := by decide +kernel
theorem dX6_fieldsWithLeaders_22 : decode cX6_fieldsWithLeaders 22 = .ok (.invokevirtual 172, 3) := by decide +kernel
theorem dX6_fieldsWithLeaders_25 : decode cX6_fieldsWithLeaders 25 = .ok (.aload_n 0, 1) := by decide +kernel
theorem dX6_fieldsWithLeaders_26 : decode cX6_fieldsWithLeaders 26 = .ok (.getfield 22, 3) := by decide +kernel
theorem dX6_fieldsWithLeaders_29 : decode cX6_fieldsWithLeaders 29 = .ok (.getfield 176, 3) := by decide +kernel
theorem dX6_fieldsWithLeaders_32 : decode cX6_fieldsWithLeaders 32 = .ok (.iload_n 1, 1) := by decide +kernel
theorem dX6_fieldsWithLeaders_33 : decode cX6_fieldsWithLeaders 33 = .ok (.iload_n 2, 1) := by decide +kernel
theorem dX6_fieldsWithLeaders_34 : decode cX6_fieldsWithLeaders 34 = .ok (.invokestatic 71, 3) := by decide +kernel
theorem dX6_fieldsWithLeaders_37 : decode cX6_fieldsWithLeaders 37 = .ok (.ifCond .eq 10, 3) := by decide +kernel
theorem dX6_fieldsWithLeaders_40 : decode cX6_fieldsWithLeaders 40 = .ok (.iload_n 3, 1) := by decide +kernel
theorem dX6_fieldsWithLeaders_41 : decode cX6_fieldsWithLeaders 41 = .ok (.iconst 1, 1) := by decide +kernel
theorem dX6_fieldsWithLeaders_42 : decode cX6_fieldsWithLeaders 42 = .ok (.iload 4, 2) := by decide +kernel
theorem dX6_fieldsWithLeaders_44 : decode cX6_fieldsWithLeaders 44 = .ok (.ishl, 1) := by decide +kernel
theorem dX6_fieldsWithLeaders_45 : decode cX6_fieldsWithLeaders 45 = .ok (.ior, 1) := by decide +kernel
theorem dX6_fieldsWithLeaders_46 : decode cX6_fieldsWithLeaders 46 = .ok (.istore_n 3, 1) := by decide +kernel
theorem dX6_fieldsWithLeaders_47 : decode cX6_fieldsWithLeaders 47 = .ok (.iinc 4 1, 3) := by decide +kernel
theorem dX6_fieldsWithLeaders_50 : decode cX6_fieldsWithLeaders 50 = .ok (.goto (-45), 3) := by decide +kernel
theorem dX6_fieldsWithLeaders_53 : decode cX6_fieldsWithLeaders 53 = .ok (.iload_n 3, 1) := by decide +kernel
theorem dX6_fieldsWithLeaders_54 : decode cX6_fieldsWithLeaders 54 = .ok (.ireturn, 1) := by decide +kernel
theorem dX6_carryOutThePad_0 : decode cX6_carryOutThePad 0 = .ok (.iconst 0, 1) := by decide +kernel
theorem dX6_carryOutThePad_1 : decode cX6_carryOutThePad 1 = .ok (.istore_n 1, 1) := by decide +kernel
theorem dX6_carryOutThePad_2 : decode cX6_carryOutThePad 2 = .ok (.aload_n 0, 1) := by decide +kernel
theorem dX6_carryOutThePad_3 : decode cX6_carryOutThePad 3 = .ok (.getfield 51, 3) := by decide +kernel
theorem dX6_carryOutThePad_6 : decode cX6_carryOutThePad 6 = .ok (.invokevirtual 252, 3) := by decide +kernel
theorem dX6_carryOutThePad_9 : decode cX6_carryOutThePad 9 = .ok (.iconst 0, 1) := by decide +kernel
theorem dX6_carryOutThePad_10 : decode cX6_carryOutThePad 10 = .ok (.istore_n 2, 1) := by decide +kernel
theorem dX6_carryOutThePad_11 : decode cX6_carryOutThePad 11 = .ok (.iload_n 2, 1) := by decide +kernel
theorem dX6_carryOutThePad_12 : decode cX6_carryOutThePad 12 = .ok (.aload_n 0, 1) := by decide +kernel
theorem dX6_carryOutThePad_13 : decode cX6_carryOutThePad 13 = .ok (.getfield 44, 3) := by decide +kernel
theorem dX6_carryOutThePad_16 : decode cX6_carryOutThePad 16 = .ok (.getfield 205, 3) := by decide +kernel
theorem dX6_carryOutThePad_19 : decode cX6_carryOutThePad 19 = .ok (.if_icmp .ge 48, 3) := by decide +kernel
theorem dX6_carryOutThePad_22 : decode cX6_carryOutThePad 22 = .ok (.aload_n 0, 1) := by decide +kernel
theorem dX6_carryOutThePad_23 : decode cX6_carryOutThePad 23 = .ok (.getfield 51, 3) := by decide +kernel
theorem dX6_carryOutThePad_26 : decode cX6_carryOutThePad 26 = .ok (.aload_n 0, 1) := by decide +kernel
theorem dX6_carryOutThePad_27 : decode cX6_carryOutThePad 27 = .ok (.getfield 44, 3) := by decide +kernel
theorem dX6_carryOutThePad_30 : decode cX6_carryOutThePad 30 = .ok (.getfield 255, 3) := by decide +kernel
theorem dX6_carryOutThePad_33 : decode cX6_carryOutThePad 33 = .ok (.iload_n 2, 1) := by decide +kernel
theorem dX6_carryOutThePad_34 : decode cX6_carryOutThePad 34 = .ok (.caload, 1) := by decide +kernel
theorem dX6_carryOutThePad_35 : decode cX6_carryOutThePad 35 = .ok (.invokevirtual 259, 3) := by decide +kernel
theorem dX6_carryOutThePad_38 : decode cX6_carryOutThePad 38 = .ok (.pop, 1) := by decide +kernel
theorem dX6_carryOutThePad_39 : decode cX6_carryOutThePad 39 = .ok (.aload_n 0, 1) := by decide +kernel
theorem dX6_carryOutThePad_40 : decode cX6_carryOutThePad 40 = .ok (.getfield 51, 3) := by decide +kernel
theorem dX6_carryOutThePad_43 : decode cX6_carryOutThePad 43 = .ok (.invokevirtual 263, 3) := by decide +kernel
theorem dX6_carryOutThePad_46 : decode cX6_carryOutThePad 46 = .ok (.ifCond .eq 15, 3) := by decide +kernel
theorem dX6_carryOutThePad_49 : decode cX6_carryOutThePad 49 = .ok (.aload_n 0, 1) := by decide +kernel
theorem dX6_carryOutThePad_50 : decode cX6_carryOutThePad 50 = .ok (.invokevirtual 266, 3) := by decide +kernel
theorem dX6_carryOutThePad_53 : decode cX6_carryOutThePad 53 = .ok (.ifCond .ne 5, 3) := by decide +kernel
theorem dX6_carryOutThePad_56 : decode cX6_carryOutThePad 56 = .ok (.iload_n 1, 1) := by decide +kernel
theorem dX6_carryOutThePad_57 : decode cX6_carryOutThePad 57 = .ok (.ireturn, 1) := by decide +kernel
theorem dX6_carryOutThePad_58 : decode cX6_carryOutThePad 58 = .ok (.iinc 1 1, 3) := by decide +kernel
theorem dX6_carryOutThePad_61 : decode cX6_carryOutThePad 61 = .ok (.iinc 2 1, 3) := by decide +kernel
theorem dX6_carryOutThePad_64 : decode cX6_carryOutThePad 64 = .ok (.goto (-53), 3) := by decide +kernel
theorem dX6_carryOutThePad_67 : decode cX6_carryOutThePad 67 = .ok (.iload_n 1, 1) := by decide +kernel
theorem dX6_carryOutThePad_68 : decode cX6_carryOutThePad 68 = .ok (.ireturn, 1) := by decide +kernel
theorem dX6_carriesOutOrder_0 : decode cX6_carriesOutOrder 0 = .ok (.aload_n 0, 1) := by decide +kernel
theorem dX6_carriesOutOrder_1 : decode cX6_carriesOutOrder 1 = .ok (.getfield 51, 3) := by decide +kernel
theorem dX6_carriesOutOrder_4 : decode cX6_carriesOutOrder 4 = .ok (.getfield 269, 3) := by decide +kernel
theorem dX6_carriesOutOrder_7 : decode cX6_carriesOutOrder 7 = .ok (.lookupswitch 139 #[(115, 89), (119, 25)], 25) := by decide +kernel
theorem dX6_carriesOutOrder_32 : decode cX6_carriesOutOrder 32 = .ok (.aload_n 0, 1) := by decide +kernel
theorem dX6_carriesOutOrder_33 : decode cX6_carriesOutOrder 33 = .ok (.getfield 10, 3) := by decide +kernel
theorem dX6_carriesOutOrder_36 : decode cX6_carriesOutOrder 36 = .ok (.aload_n 0, 1) := by decide +kernel
theorem dX6_carriesOutOrder_37 : decode cX6_carriesOutOrder 37 = .ok (.getfield 51, 3) := by decide +kernel
theorem dX6_carriesOutOrder_40 : decode cX6_carriesOutOrder 40 = .ok (.getfield 272, 3) := by decide +kernel
theorem dX6_carriesOutOrder_43 : decode cX6_carriesOutOrder 43 = .ok (.aload_n 0, 1) := by decide +kernel
theorem dX6_carriesOutOrder_44 : decode cX6_carriesOutOrder 44 = .ok (.getfield 51, 3) := by decide +kernel
theorem dX6_carriesOutOrder_47 : decode cX6_carriesOutOrder 47 = .ok (.getfield 275, 3) := by decide +kernel
theorem dX6_carriesOutOrder_50 : decode cX6_carriesOutOrder 50 = .ok (.aload_n 0, 1) := by decide +kernel
theorem dX6_carriesOutOrder_51 : decode cX6_carriesOutOrder 51 = .ok (.getfield 51, 3) := by decide +kernel
theorem dX6_carriesOutOrder_54 : decode cX6_carriesOutOrder 54 = .ok (.getfield 278, 3) := by decide +kernel
theorem dX6_carriesOutOrder_57 : decode cX6_carriesOutOrder 57 = .ok (.invokevirtual 91, 3) := by decide +kernel
theorem dX6_carriesOutOrder_60 : decode cX6_carriesOutOrder 60 = .ok (.ifCond .eq 5, 3) := by decide +kernel
theorem dX6_carriesOutOrder_63 : decode cX6_carriesOutOrder 63 = .ok (.iconst 0, 1) := by decide +kernel
theorem dX6_carriesOutOrder_64 : decode cX6_carriesOutOrder 64 = .ok (.ireturn, 1) := by decide +kernel
theorem dX6_carriesOutOrder_65 : decode cX6_carriesOutOrder 65 = .ok (.aload_n 0, 1) := by decide +kernel
theorem dX6_carriesOutOrder_66 : decode cX6_carriesOutOrder 66 = .ok (.getfield 10, 3) := by decide +kernel
theorem dX6_carriesOutOrder_69 : decode cX6_carriesOutOrder 69 = .ok (.aload_n 0, 1) := by decide +kernel
theorem dX6_carriesOutOrder_70 : decode cX6_carriesOutOrder 70 = .ok (.getfield 51, 3) := by decide +kernel
theorem dX6_carriesOutOrder_73 : decode cX6_carriesOutOrder 73 = .ok (.getfield 272, 3) := by decide +kernel
theorem dX6_carriesOutOrder_76 : decode cX6_carriesOutOrder 76 = .ok (.aload_n 0, 1) := by decide +kernel
theorem dX6_carriesOutOrder_77 : decode cX6_carriesOutOrder 77 = .ok (.getfield 51, 3) := by decide +kernel
theorem dX6_carriesOutOrder_80 : decode cX6_carriesOutOrder 80 = .ok (.getfield 275, 3) := by decide +kernel
theorem dX6_carriesOutOrder_83 : decode cX6_carriesOutOrder 83 = .ok (.aload_n 0, 1) := by decide +kernel
theorem dX6_carriesOutOrder_84 : decode cX6_carriesOutOrder 84 = .ok (.getfield 51, 3) := by decide +kernel
theorem dX6_carriesOutOrder_87 : decode cX6_carriesOutOrder 87 = .ok (.getfield 278, 3) := by decide +kernel
theorem dX6_carriesOutOrder_90 : decode cX6_carriesOutOrder 90 = .ok (.invokevirtual 95, 3) := by decide +kernel
theorem dX6_carriesOutOrder_93 : decode cX6_carriesOutOrder 93 = .ok (.pop, 1) := by decide +kernel
theorem dX6_carriesOutOrder_94 : decode cX6_carriesOutOrder 94 = .ok (.iconst 1, 1) := by decide +kernel
theorem dX6_carriesOutOrder_95 : decode cX6_carriesOutOrder 95 = .ok (.ireturn, 1) := by decide +kernel
theorem dX6_carriesOutOrder_96 : decode cX6_carriesOutOrder 96 = .ok (.aload_n 0, 1) := by decide +kernel
theorem dX6_carriesOutOrder_97 : decode cX6_carriesOutOrder 97 = .ok (.getfield 10, 3) := by decide +kernel
theorem dX6_carriesOutOrder_100 : decode cX6_carriesOutOrder 100 = .ok (.aload_n 0, 1) := by decide +kernel
theorem dX6_carriesOutOrder_101 : decode cX6_carriesOutOrder 101 = .ok (.getfield 51, 3) := by decide +kernel
theorem dX6_carriesOutOrder_104 : decode cX6_carriesOutOrder 104 = .ok (.getfield 272, 3) := by decide +kernel
theorem dX6_carriesOutOrder_107 : decode cX6_carriesOutOrder 107 = .ok (.aload_n 0, 1) := by decide +kernel
theorem dX6_carriesOutOrder_108 : decode cX6_carriesOutOrder 108 = .ok (.getfield 51, 3) := by decide +kernel
theorem dX6_carriesOutOrder_111 : decode cX6_carriesOutOrder 111 = .ok (.getfield 278, 3) := by decide +kernel
theorem dX6_carriesOutOrder_114 : decode cX6_carriesOutOrder 114 = .ok (.invokevirtual 98, 3) := by decide +kernel
theorem dX6_carriesOutOrder_117 : decode cX6_carriesOutOrder 117 = .ok (.ifCond .eq 5, 3) := by decide +kernel
theorem dX6_carriesOutOrder_120 : decode cX6_carriesOutOrder 120 = .ok (.iconst 0, 1) := by decide +kernel
theorem dX6_carriesOutOrder_121 : decode cX6_carriesOutOrder 121 = .ok (.ireturn, 1) := by decide +kernel
theorem dX6_carriesOutOrder_122 : decode cX6_carriesOutOrder 122 = .ok (.aload_n 0, 1) := by decide +kernel
theorem dX6_carriesOutOrder_123 : decode cX6_carriesOutOrder 123 = .ok (.getfield 10, 3) := by decide +kernel
theorem dX6_carriesOutOrder_126 : decode cX6_carriesOutOrder 126 = .ok (.aload_n 0, 1) := by decide +kernel
theorem dX6_carriesOutOrder_127 : decode cX6_carriesOutOrder 127 = .ok (.getfield 51, 3) := by decide +kernel
theorem dX6_carriesOutOrder_130 : decode cX6_carriesOutOrder 130 = .ok (.getfield 272, 3) := by decide +kernel
theorem dX6_carriesOutOrder_133 : decode cX6_carriesOutOrder 133 = .ok (.aload_n 0, 1) := by decide +kernel
theorem dX6_carriesOutOrder_134 : decode cX6_carriesOutOrder 134 = .ok (.getfield 51, 3) := by decide +kernel
theorem dX6_carriesOutOrder_137 : decode cX6_carriesOutOrder 137 = .ok (.getfield 278, 3) := by decide +kernel
theorem dX6_carriesOutOrder_140 : decode cX6_carriesOutOrder 140 = .ok (.invokevirtual 102, 3) := by decide +kernel
theorem dX6_carriesOutOrder_143 : decode cX6_carriesOutOrder 143 = .ok (.pop, 1) := by decide +kernel
theorem dX6_carriesOutOrder_144 : decode cX6_carriesOutOrder 144 = .ok (.iconst 1, 1) := by decide +kernel
theorem dX6_carriesOutOrder_145 : decode cX6_carriesOutOrder 145 = .ok (.ireturn, 1) := by decide +kernel
theorem dX6_carriesOutOrder_146 : decode cX6_carriesOutOrder 146 = .ok (.aload_n 0, 1) := by decide +kernel
theorem dX6_carriesOutOrder_147 : decode cX6_carriesOutOrder 147 = .ok (.getfield 51, 3) := by decide +kernel
theorem dX6_carriesOutOrder_150 : decode cX6_carriesOutOrder 150 = .ok (.getfield 269, 3) := by decide +kernel
theorem dX6_carriesOutOrder_153 : decode cX6_carriesOutOrder 153 = .ok (.bipush 116, 2) := by decide +kernel
theorem dX6_carriesOutOrder_155 : decode cX6_carriesOutOrder 155 = .ok (.if_icmp .ne 7, 3) := by decide +kernel
theorem dX6_carriesOutOrder_158 : decode cX6_carriesOutOrder 158 = .ok (.iconst 0, 1) := by decide +kernel
theorem dX6_carriesOutOrder_159 : decode cX6_carriesOutOrder 159 = .ok (.goto 4, 3) := by decide +kernel
theorem dX6_carriesOutOrder_162 : decode cX6_carriesOutOrder 162 = .ok (.iconst 1, 1) := by decide +kernel
theorem dX6_carriesOutOrder_163 : decode cX6_carriesOutOrder 163 = .ok (.istore_n 1, 1) := by decide +kernel
theorem dX6_carriesOutOrder_164 : decode cX6_carriesOutOrder 164 = .ok (.aload_n 0, 1) := by decide +kernel
theorem dX6_carriesOutOrder_165 : decode cX6_carriesOutOrder 165 = .ok (.getfield 10, 3) := by decide +kernel
theorem dX6_carriesOutOrder_168 : decode cX6_carriesOutOrder 168 = .ok (.iload_n 1, 1) := by decide +kernel
theorem dX6_carriesOutOrder_169 : decode cX6_carriesOutOrder 169 = .ok (.invokevirtual 134, 3) := by decide +kernel
theorem dX6_carriesOutOrder_172 : decode cX6_carriesOutOrder 172 = .ok (.ifCond .eq 5, 3) := by decide +kernel
theorem dX6_carriesOutOrder_175 : decode cX6_carriesOutOrder 175 = .ok (.iconst 0, 1) := by decide +kernel
theorem dX6_carriesOutOrder_176 : decode cX6_carriesOutOrder 176 = .ok (.ireturn, 1) := by decide +kernel
theorem dX6_carriesOutOrder_177 : decode cX6_carriesOutOrder 177 = .ok (.aload_n 0, 1) := by decide +kernel
theorem dX6_carriesOutOrder_178 : decode cX6_carriesOutOrder 178 = .ok (.getfield 10, 3) := by decide +kernel
theorem dX6_carriesOutOrder_181 : decode cX6_carriesOutOrder 181 = .ok (.iload_n 1, 1) := by decide +kernel
theorem dX6_carriesOutOrder_182 : decode cX6_carriesOutOrder 182 = .ok (.invokevirtual 138, 3) := by decide +kernel
theorem dX6_carriesOutOrder_185 : decode cX6_carriesOutOrder 185 = .ok (.pop, 1) := by decide +kernel
theorem dX6_carriesOutOrder_186 : decode cX6_carriesOutOrder 186 = .ok (.iconst 1, 1) := by decide +kernel
theorem dX6_carriesOutOrder_187 : decode cX6_carriesOutOrder 187 = .ok (.ireturn, 1) := by decide +kernel
theorem dX6_isWithin_0 : decode cX6_isWithin 0 = .ok (.iload_n 0, 1) := by decide +kernel
theorem dX6_isWithin_1 : decode cX6_isWithin 1 = .ok (.iload_n 1, 1) := by decide +kernel
theorem dX6_isWithin_2 : decode cX6_isWithin 2 = .ok (.if_icmp .lt 12, 3) := by decide +kernel
theorem dX6_isWithin_5 : decode cX6_isWithin 5 = .ok (.iload_n 0, 1) := by decide +kernel
theorem dX6_isWithin_6 : decode cX6_isWithin 6 = .ok (.iload_n 2, 1) := by decide +kernel
theorem dX6_isWithin_7 : decode cX6_isWithin 7 = .ok (.if_icmp .gt 7, 3) := by decide +kernel
theorem dX6_isWithin_10 : decode cX6_isWithin 10 = .ok (.iconst 1, 1) := by decide +kernel
theorem dX6_isWithin_11 : decode cX6_isWithin 11 = .ok (.goto 4, 3) := by decide +kernel
theorem dX6_isWithin_14 : decode cX6_isWithin 14 = .ok (.iconst 0, 1) := by decide +kernel
theorem dX6_isWithin_15 : decode cX6_isWithin 15 = .ok (.ireturn, 1) := by decide +kernel
theorem dX6_isSheet_0 : decode cX6_isSheet 0 = .ok (.iload_n 0, 1) := by decide +kernel
theorem dX6_isSheet_1 : decode cX6_isSheet 1 = .ok (.iconst 0, 1) := by decide +kernel
theorem dX6_isSheet_2 : decode cX6_isSheet 2 = .ok (.iconst 4, 1) := by decide +kernel
theorem dX6_isSheet_3 : decode cX6_isSheet 3 = .ok (.invokestatic 71, 3) := by decide +kernel
theorem dX6_isSheet_6 : decode cX6_isSheet 6 = .ok (.ireturn, 1) := by decide +kernel
theorem dX6_isField_0 : decode cX6_isField 0 = .ok (.iload_n 0, 1) := by decide +kernel
theorem dX6_isField_1 : decode cX6_isField 1 = .ok (.iconst 0, 1) := by decide +kernel
theorem dX6_isField_2 : decode cX6_isField 2 = .ok (.bipush 9, 2) := by decide +kernel
theorem dX6_isField_4 : decode cX6_isField 4 = .ok (.invokestatic 71, 3) := by decide +kernel
theorem dX6_isField_7 : decode cX6_isField 7 = .ok (.ireturn, 1) := by decide +kernel
theorem dX6_isValue_0 : decode cX6_isValue 0 = .ok (.iload_n 0, 1) := by decide +kernel
theorem dX6_isValue_1 : decode cX6_isValue 1 = .ok (.iconst 0, 1) := by decide +kernel
theorem dX6_isValue_2 : decode cX6_isValue 2 = .ok (.sipush 999, 3) := by decide +kernel
theorem dX6_isValue_5 : decode cX6_isValue 5 = .ok (.invokestatic 71, 3) := by decide +kernel
theorem dX6_isValue_8 : decode cX6_isValue 8 = .ok (.ireturn, 1) := by decide +kernel
theorem dX6_isPressure_0 : decode cX6_isPressure 0 = .ok (.iload_n 0, 1) := by decide +kernel
theorem dX6_isPressure_1 : decode cX6_isPressure 1 = .ok (.iconst 1, 1) := by decide +kernel
theorem dX6_isPressure_2 : decode cX6_isPressure 2 = .ok (.bipush 9, 2) := by decide +kernel
theorem dX6_isPressure_4 : decode cX6_isPressure 4 = .ok (.invokestatic 71, 3) := by decide +kernel
theorem dX6_isPressure_7 : decode cX6_isPressure 7 = .ok (.ireturn, 1) := by decide +kernel
theorem dX6_isSlot_0 : decode cX6_isSlot 0 = .ok (.iload_n 0, 1) := by decide +kernel
theorem dX6_isSlot_1 : decode cX6_isSlot 1 = .ok (.iconst 0, 1) := by decide +kernel
theorem dX6_isSlot_2 : decode cX6_isSlot 2 = .ok (.iconst 1, 1) := by decide +kernel
theorem dX6_isSlot_3 : decode cX6_isSlot 3 = .ok (.invokestatic 71, 3) := by decide +kernel
theorem dX6_isSlot_6 : decode cX6_isSlot 6 = .ok (.ireturn, 1) := by decide +kernel
theorem dX6_isSettingWith_0 : decode cX6_isSettingWith 0 = .ok (.iload_n 0, 1) := by decide +kernel
theorem dX6_isSettingWith_1 : decode cX6_isSettingWith 1 = .ok (.lookupswitch 42 #[(0, 27), (1, 35)], 27) := by decide +kernel
theorem dX6_isSettingWith_28 : decode cX6_isSettingWith 28 = .ok (.iload_n 1, 1) := by decide +kernel
theorem dX6_isSettingWith_29 : decode cX6_isSettingWith 29 = .ok (.iconst 1, 1) := by decide +kernel
theorem dX6_isSettingWith_30 : decode cX6_isSettingWith 30 = .ok (.bipush 9, 2) := by decide +kernel
theorem dX6_isSettingWith_32 : decode cX6_isSettingWith 32 = .ok (.invokestatic 71, 3) := by decide +kernel
theorem dX6_isSettingWith_35 : decode cX6_isSettingWith 35 = .ok (.ireturn, 1) := by decide +kernel
theorem dX6_isSettingWith_36 : decode cX6_isSettingWith 36 = .ok (.iload_n 1, 1) := by decide +kernel
theorem dX6_isSettingWith_37 : decode cX6_isSettingWith 37 = .ok (.iconst 0, 1) := by decide +kernel
theorem dX6_isSettingWith_38 : decode cX6_isSettingWith 38 = .ok (.iconst 5, 1) := by decide +kernel
theorem dX6_isSettingWith_39 : decode cX6_isSettingWith 39 = .ok (.invokestatic 71, 3) := by decide +kernel
theorem dX6_isSettingWith_42 : decode cX6_isSettingWith 42 = .ok (.ireturn, 1) := by decide +kernel
theorem dX6_isSettingWith_43 : decode cX6_isSettingWith 43 = .ok (.iconst 0, 1) := by decide +kernel
theorem dX6_isSettingWith_44 : decode cX6_isSettingWith 44 = .ok (.ireturn, 1) := by decide +kernel
