theorem dX7_strike_39 : decode cX7_strike 39 = .ok (.invokevirtual 102, 3) := by decide +kernel
theorem dX7_strike_42 : decode cX7_strike 42 = .ok (.ireturn, 1) := by decide +kernel
theorem dX7_paint_0 : decode cX7_paint 0 = .ok (.iload_n 1, 1) := by decide +kernel
theorem dX7_paint_1 : decode cX7_paint 1 = .ok (.invokestatic 50, 3) := by decide +kernel
theorem dX7_paint_4 : decode cX7_paint 4 = .ok (.ifCond .eq 10, 3) := by decide +kernel
theorem dX7_paint_7 : decode cX7_paint 7 = .ok (.iload_n 2, 1) := by decide +kernel
theorem dX7_paint_8 : decode cX7_paint 8 = .ok (.invokestatic 75, 3) := by decide +kernel
theorem dX7_paint_11 : decode cX7_paint 11 = .ok (.ifCond .ne 5, 3) := by decide +kernel
theorem dX7_paint_14 : decode cX7_paint 14 = .ok (.iconst (-1), 1) := by decide +kernel
theorem dX7_paint_15 : decode cX7_paint 15 = .ok (.ireturn, 1) := by decide +kernel
theorem dX7_paint_16 : decode cX7_paint 16 = .ok (.aload_n 0, 1) := by decide +kernel
theorem dX7_paint_17 : decode cX7_paint 17 = .ok (.iload_n 1, 1) := by decide +kernel
theorem dX7_paint_18 : decode cX7_paint 18 = .ok (.invokevirtual 54, 3) := by decide +kernel
theorem dX7_paint_21 : decode cX7_paint 21 = .ok (.ifCond .eq 16, 3) := by decide +kernel
theorem dX7_paint_24 : decode cX7_paint 24 = .ok (.iload_n 1, 1) := by decide +kernel
theorem dX7_paint_25 : decode cX7_paint 25 = .ok (.aload_n 0, 1) := by decide +kernel
theorem dX7_paint_26 : decode cX7_paint 26 = .ok (.getfield 7, 3) := by decide +kernel
theorem dX7_paint_29 : decode cX7_paint 29 = .ok (.iconst 2, 1) := by decide +kernel
theorem dX7_paint_30 : decode cX7_paint 30 = .ok (.iaload, 1) := by decide +kernel
theorem dX7_paint_31 : decode cX7_paint 31 = .ok (.if_icmp .eq 6, 3) := by decide +kernel
theorem dX7_paint_34 : decode cX7_paint 34 = .ok (.bipush (-5), 2) := by decide +kernel
theorem dX7_paint_36 : decode cX7_paint 36 = .ok (.ireturn, 1) := by decide +kernel
theorem dX7_paint_37 : decode cX7_paint 37 = .ok (.aload_n 0, 1) := by decide +kernel
theorem dX7_paint_38 : decode cX7_paint 38 = .ok (.invokevirtual 47, 3) := by decide +kernel
theorem dX7_paint_41 : decode cX7_paint 41 = .ok (.aload_n 0, 1) := by decide +kernel
theorem dX7_paint_42 : decode cX7_paint 42 = .ok (.getfield 7, 3) := by decide +kernel
theorem dX7_paint_45 : decode cX7_paint 45 = .ok (.bipush 14, 2) := by decide +kernel
theorem dX7_paint_47 : decode cX7_paint 47 = .ok (.iload_n 1, 1) := by decide +kernel
theorem dX7_paint_48 : decode cX7_paint 48 = .ok (.iadd, 1) := by decide +kernel
theorem dX7_paint_49 : decode cX7_paint 49 = .ok (.dup2, 1) := by decide +kernel
theorem dX7_paint_50 : decode cX7_paint 50 = .ok (.iaload, 1) := by decide +kernel
theorem dX7_paint_51 : decode cX7_paint 51 = .ok (.aload_n 0, 1) := by decide +kernel
theorem dX7_paint_52 : decode cX7_paint 52 = .ok (.iload_n 1, 1) := by decide +kernel
theorem dX7_paint_53 : decode cX7_paint 53 = .ok (.invokevirtual 54, 3) := by decide +kernel
theorem dX7_paint_56 : decode cX7_paint 56 = .ok (.ifCond .eq 7, 3) := by decide +kernel
theorem dX7_paint_59 : decode cX7_paint 59 = .ok (.iconst 0, 1) := by decide +kernel
theorem dX7_paint_60 : decode cX7_paint 60 = .ok (.goto 6, 3) := by decide +kernel
theorem dX7_paint_63 : decode cX7_paint 63 = .ok (.iconst 1, 1) := by decide +kernel
theorem dX7_paint_64 : decode cX7_paint 64 = .ok (.iload_n 2, 1) := by decide +kernel
theorem dX7_paint_65 : decode cX7_paint 65 = .ok (.ishl, 1) := by decide +kernel
theorem dX7_paint_66 : decode cX7_paint 66 = .ok (.ior, 1) := by decide +kernel
theorem dX7_paint_67 : decode cX7_paint 67 = .ok (.iastore, 1) := by decide +kernel
theorem dX7_paint_68 : decode cX7_paint 68 = .ok (.aload_n 0, 1) := by decide +kernel
theorem dX7_paint_69 : decode cX7_paint 69 = .ok (.iload_n 1, 1) := by decide +kernel
theorem dX7_paint_70 : decode cX7_paint 70 = .ok (.iload_n 2, 1) := by decide +kernel
theorem dX7_paint_71 : decode cX7_paint 71 = .ok (.bipush 9, 2) := by decide +kernel
theorem dX7_paint_73 : decode cX7_paint 73 = .ok (.invokevirtual 99, 3) := by decide +kernel
theorem dX7_paint_76 : decode cX7_paint 76 = .ok (.ireturn, 1) := by decide +kernel
theorem dX7_amend_0 : decode cX7_amend 0 = .ok (.iload_n 1, 1) := by decide +kernel
theorem dX7_amend_1 : decode cX7_amend 1 = .ok (.invokestatic 50, 3) := by decide +kernel
theorem dX7_amend_4 : decode cX7_amend 4 = .ok (.ifCond .eq 10, 3) := by decide +kernel
theorem dX7_amend_7 : decode cX7_amend 7 = .ok (.iload_n 2, 1) := by decide +kernel
theorem dX7_amend_8 : decode cX7_amend 8 = .ok (.invokestatic 75, 3) := by decide +kernel
theorem dX7_amend_11 : decode cX7_amend 11 = .ok (.ifCond .ne 5, 3) := by decide +kernel
theorem dX7_amend_14 : decode cX7_amend 14 = .ok (.iconst (-1), 1) := by decide +kernel
theorem dX7_amend_15 : decode cX7_amend 15 = .ok (.ireturn, 1) := by decide +kernel
theorem dX7_amend_16 : decode cX7_amend 16 = .ok (.iload_n 3, 1) := by decide +kernel
theorem dX7_amend_17 : decode cX7_amend 17 = .ok (.iconst 0, 1) := by decide +kernel
theorem dX7_amend_18 : decode cX7_amend 18 = .ok (.sipush 999, 3) := by decide +kernel
theorem dX7_amend_21 : decode cX7_amend 21 = .ok (.invokestatic 43, 3) := by decide +kernel
theorem dX7_amend_24 : decode cX7_amend 24 = .ok (.ifCond .eq 14, 3) := by decide +kernel
theorem dX7_amend_27 : decode cX7_amend 27 = .ok (.iload 4, 2) := by decide +kernel
theorem dX7_amend_29 : decode cX7_amend 29 = .ok (.iconst 1, 1) := by decide +kernel
theorem dX7_amend_30 : decode cX7_amend 30 = .ok (.bipush 9, 2) := by decide +kernel
theorem dX7_amend_32 : decode cX7_amend 32 = .ok (.invokestatic 43, 3) := by decide +kernel
theorem dX7_amend_35 : decode cX7_amend 35 = .ok (.ifCond .ne 6, 3) := by decide +kernel
theorem dX7_amend_38 : decode cX7_amend 38 = .ok (.bipush (-2), 2) := by decide +kernel
theorem dX7_amend_40 : decode cX7_amend 40 = .ok (.ireturn, 1) := by decide +kernel
theorem dX7_amend_41 : decode cX7_amend 41 = .ok (.aload_n 0, 1) := by decide +kernel
theorem dX7_amend_42 : decode cX7_amend 42 = .ok (.iload_n 1, 1) := by decide +kernel
theorem dX7_amend_43 : decode cX7_amend 43 = .ok (.invokevirtual 54, 3) := by decide +kernel
theorem dX7_amend_46 : decode cX7_amend 46 = .ok (.ifCond .eq 6, 3) := by decide +kernel
theorem dX7_amend_49 : decode cX7_amend 49 = .ok (.bipush (-5), 2) := by decide +kernel
theorem dX7_amend_51 : decode cX7_amend 51 = .ok (.ireturn, 1) := by decide +kernel
theorem dX7_amend_52 : decode cX7_amend 52 = .ok (.aload_n 0, 1) := by decide +kernel
theorem dX7_amend_53 : decode cX7_amend 53 = .ok (.iload_n 1, 1) := by decide +kernel
theorem dX7_amend_54 : decode cX7_amend 54 = .ok (.iload_n 2, 1) := by decide +kernel
theorem dX7_amend_55 : decode cX7_amend 55 = .ok (.invokevirtual 61, 3) := by decide +kernel
theorem dX7_amend_58 : decode cX7_amend 58 = .ok (.bipush 8, 2) := by decide +kernel
theorem dX7_amend_60 : decode cX7_amend 60 = .ok (.if_icmp .ne 6, 3) := by decide +kernel
theorem dX7_amend_63 : decode cX7_amend 63 = .ok (.bipush (-4), 2) := by decide +kernel
theorem dX7_amend_65 : decode cX7_amend 65 = .ok (.ireturn, 1) := by decide +kernel
theorem dX7_amend_66 : decode cX7_amend 66 = .ok (.aload_n 0, 1) := by decide +kernel
theorem dX7_amend_67 : decode cX7_amend 67 = .ok (.invokevirtual 47, 3) := by decide +kernel
theorem dX7_amend_70 : decode cX7_amend 70 = .ok (.aload_n 0, 1) := by decide +kernel
theorem dX7_amend_71 : decode cX7_amend 71 = .ok (.getfield 7, 3) := by decide +kernel
theorem dX7_amend_74 : decode cX7_amend 74 = .ok (.bipush 14, 2) := by decide +kernel
theorem dX7_amend_76 : decode cX7_amend 76 = .ok (.iload_n 1, 1) := by decide +kernel
theorem dX7_amend_77 : decode cX7_amend 77 = .ok (.iadd, 1) := by decide +kernel
theorem dX7_amend_78 : decode cX7_amend 78 = .ok (.dup2, 1) := by decide +kernel
theorem dX7_amend_79 : decode cX7_amend 79 = .ok (.iaload, 1) := by decide +kernel
theorem dX7_amend_80 : decode cX7_amend 80 = .ok (.iconst 1, 1) := by decide +kernel
theorem dX7_amend_81 : decode cX7_amend 81 = .ok (.iload_n 2, 1) := by decide +kernel
theorem dX7_amend_82 : decode cX7_amend 82 = .ok (.ishl, 1) := by decide +kernel
theorem dX7_amend_83 : decode cX7_amend 83 = .ok (.ior, 1) := by decide +kernel
theorem dX7_amend_84 : decode cX7_amend 84 = .ok (.iastore, 1) := by decide +kernel
theorem dX7_amend_85 : decode cX7_amend 85 = .ok (.aload_n 0, 1) := by decide +kernel
theorem dX7_amend_86 : decode cX7_amend 86 = .ok (.iload_n 1, 1) := by decide +kernel
theorem dX7_amend_87 : decode cX7_amend 87 = .ok (.iload_n 2, 1) := by decide +kernel
theorem dX7_amend_88 : decode cX7_amend 88 = .ok (.iload_n 3, 1) := by decide +kernel
theorem dX7_amend_89 : decode cX7_amend 89 = .ok (.iload 4, 2) := by decide +kernel
theorem dX7_amend_91 : decode cX7_amend 91 = .ok (.invokevirtual 89, 3) := by decide +kernel
theorem dX7_amend_94 : decode cX7_amend 94 = .ok (.aload_n 0, 1) := by decide +kernel
theorem dX7_amend_95 : decode cX7_amend 95 = .ok (.iload_n 1, 1) := by decide +kernel
theorem dX7_amend_96 : decode cX7_amend 96 = .ok (.iload_n 2, 1) := by decide +kernel
theorem dX7_amend_97 : decode cX7_amend 97 = .ok (.invokevirtual 61, 3) := by decide +kernel
theorem dX7_amend_100 : decode cX7_amend 100 = .ok (.ireturn, 1) := by decide +kernel
theorem dX7_tear_0 : decode cX7_tear 0 = .ok (.iload_n 1, 1) := by decide +kernel
theorem dX7_tear_1 : decode cX7_tear 1 = .ok (.iconst 0, 1) := by decide +kernel
theorem dX7_tear_2 : decode cX7_tear 2 = .ok (.iconst 1, 1) := by decide +kernel
theorem dX7_tear_3 : decode cX7_tear 3 = .ok (.invokestatic 43, 3) := by decide +kernel
theorem dX7_tear_6 : decode cX7_tear 6 = .ok (.ifCond .ne 6, 3) := by decide +kernel
theorem dX7_tear_9 : decode cX7_tear 9 = .ok (.bipush (-2), 2) := by decide +kernel
theorem dX7_tear_11 : decode cX7_tear 11 = .ok (.ireturn, 1) := by decide +kernel
theorem dX7_tear_12 : decode cX7_tear 12 = .ok (.aload_n 0, 1) := by decide +kernel
theorem dX7_tear_13 : decode cX7_tear 13 = .ok (.invokevirtual 78, 3) := by decide +kernel
theorem dX7_tear_16 : decode cX7_tear 16 = .ok (.ifCond .ne 6, 3) := by decide +kernel
theorem dX7_tear_19 : decode cX7_tear 19 = .ok (.bipush (-5), 2) := by decide +kernel
theorem dX7_tear_21 : decode cX7_tear 21 = .ok (.ireturn, 1) := by decide +kernel
theorem dX7_tear_22 : decode cX7_tear 22 = .ok (.aload_n 0, 1) := by decide +kernel
theorem dX7_tear_23 : decode cX7_tear 23 = .ok (.invokevirtual 47, 3) := by decide +kernel
theorem dX7_tear_26 : decode cX7_tear 26 = .ok (.iload_n 1, 1) := by decide +kernel
theorem dX7_tear_27 : decode cX7_tear 27 = .ok (.ifCond .ne 22, 3) := by decide +kernel
theorem dX7_tear_30 : decode cX7_tear 30 = .ok (.aload_n 0, 1) := by decide +kernel
theorem dX7_tear_31 : decode cX7_tear 31 = .ok (.getfield 7, 3) := by decide +kernel
theorem dX7_tear_34 : decode cX7_tear 34 = .ok (.iconst 2, 1) := by decide +kernel
theorem dX7_tear_35 : decode cX7_tear 35 = .ok (.dup2, 1) := by decide +kernel
theorem dX7_tear_36 : decode cX7_tear 36 = .ok (.iaload, 1) := by decide +kernel
theorem dX7_tear_37 : decode cX7_tear 37 = .ok (.iconst 1, 1) := by decide +kernel
theorem dX7_tear_38 : decode cX7_tear 38 = .ok (.iadd, 1) := by decide +kernel
theorem dX7_tear_39 : decode cX7_tear 39 = .ok (.iastore, 1) := by decide +kernel
theorem dX7_tear_40 : decode cX7_tear 40 = .ok (.aload_n 0, 1) := by decide +kernel
theorem dX7_tear_41 : decode cX7_tear 41 = .ok (.getfield 7, 3) := by decide +kernel
theorem dX7_tear_44 : decode cX7_tear 44 = .ok (.iconst 2, 1) := by decide +kernel
theorem dX7_tear_45 : decode cX7_tear 45 = .ok (.iaload, 1) := by decide +kernel
theorem dX7_tear_46 : decode cX7_tear 46 = .ok (.iconst 1, 1) := by decide +kernel
theorem dX7_tear_47 : decode cX7_tear 47 = .ok (.isub, 1) := by decide +kernel
theorem dX7_tear_48 : decode cX7_tear 48 = .ok (.ireturn, 1) := by decide +kernel
theorem dX7_tear_49 : decode cX7_tear 49 = .ok (.aload_n 0, 1) := by decide +kernel
theorem dX7_tear_50 : decode cX7_tear 50 = .ok (.getfield 7, 3) := by decide +kernel
theorem dX7_tear_53 : decode cX7_tear 53 = .ok (.iconst 3, 1) := by decide +kernel
theorem dX7_tear_54 : decode cX7_tear 54 = .ok (.dup2, 1) := by decide +kernel
theorem dX7_tear_55 : decode cX7_tear 55 = .ok (.iaload, 1) := by decide +kernel
theorem dX7_tear_56 : decode cX7_tear 56 = .ok (.iconst 1, 1) := by decide +kernel
theorem dX7_tear_57 : decode cX7_tear 57 = .ok (.isub, 1) := by decide +kernel
theorem dX7_tear_58 : decode cX7_tear 58 = .ok (.iastore, 1) := by decide +kernel
theorem dX7_tear_59 : decode cX7_tear 59 = .ok (.aload_n 0, 1) := by decide +kernel
theorem dX7_tear_60 : decode cX7_tear 60 = .ok (.getfield 7, 3) := by decide +kernel
theorem dX7_tear_63 : decode cX7_tear 63 = .ok (.iconst 3, 1) := by decide +kernel
theorem dX7_tear_64 : decode cX7_tear 64 = .ok (.iaload, 1) := by decide +kernel
theorem dX7_tear_65 : decode cX7_tear 65 = .ok (.iconst 1, 1) := by decide +kernel
theorem dX7_tear_66 : decode cX7_tear 66 = .ok (.iadd, 1) := by decide +kernel
theorem dX7_tear_67 : decode cX7_tear 67 = .ok (.ireturn, 1) := by decide +kernel
theorem dX7_isReadable_0 : decode cX7_isReadable 0 = .ok (.iload_n 1, 1) := by decide +kernel
theorem dX7_isReadable_1 : decode cX7_isReadable 1 = .ok (.invokestatic 68, 3) := by decide +kernel
theorem dX7_isReadable_4 : decode cX7_isReadable 4 = .ok (.ifCond .ne 20, 3) := by decide +kernel
theorem dX7_isReadable_7 : decode cX7_isReadable 7 = .ok (.iload_n 1, 1) := by decide +kernel
theorem dX7_isReadable_8 : decode cX7_isReadable 8 = .ok (.invokestatic 71, 3) := by decide +kernel
theorem dX7_isReadable_11 : decode cX7_isReadable 11 = .ok (.aload_n 0, 1) := by decide +kernel
theorem dX7_isReadable_12 : decode cX7_isReadable 12 = .ok (.getfield 7, 3) := by decide +kernel
theorem dX7_isReadable_15 : decode cX7_isReadable 15 = .ok (.iconst 0, 1) := by decide +kernel
theorem dX7_isReadable_16 : decode cX7_isReadable 16 = .ok (.iaload, 1) := by decide +kernel
theorem dX7_isReadable_17 : decode cX7_isReadable 17 = .ok (.if_icmp .lt 7, 3) := by decide +kernel
theorem dX7_isReadable_20 : decode cX7_isReadable 20 = .ok (.iconst 1, 1) := by decide +kernel
theorem dX7_isReadable_21 : decode cX7_isReadable 21 = .ok (.goto 4, 3) := by decide +kernel
theorem dX7_isReadable_24 : decode cX7_isReadable 24 = .ok (.iconst 0, 1) := by decide +kernel
theorem dX7_isReadable_25 : decode cX7_isReadable 25 = .ok (.ireturn, 1) := by decide +kernel
theorem dX7_lastAt_0 : decode cX7_lastAt 0 = .ok (.bipush (-6), 2) := by decide +kernel
theorem dX7_lastAt_2 : decode cX7_lastAt 2 = .ok (.istore_n 3, 1) := by decide +kernel
theorem dX7_lastAt_3 : decode cX7_lastAt 3 = .ok (.iconst 0, 1) := by decide +kernel
theorem dX7_lastAt_4 : decode cX7_lastAt 4 = .ok (.istore 4, 2) := by decide +kernel
theorem dX7_lastAt_6 : decode cX7_lastAt 6 = .ok (.iload 4, 2) := by decide +kernel
theorem dX7_lastAt_8 : decode cX7_lastAt 8 = .ok (.aload_n 0, 1) := by decide +kernel
theorem dX7_lastAt_9 : decode cX7_lastAt 9 = .ok (.iload_n 1, 1) := by decide +kernel
theorem dX7_lastAt_10 : decode cX7_lastAt 10 = .ok (.iload_n 2, 1) := by decide +kernel
theorem dX7_lastAt_11 : decode cX7_lastAt 11 = .ok (.invokevirtual 61, 3) := by decide +kernel
theorem dX7_lastAt_14 : decode cX7_lastAt 14 = .ok (.if_icmp .ge 31, 3) := by decide +kernel
theorem dX7_lastAt_17 : decode cX7_lastAt 17 = .ok (.aload_n 0, 1) := by decide +kernel
theorem dX7_lastAt_18 : decode cX7_lastAt 18 = .ok (.aload_n 0, 1) := by decide +kernel
theorem dX7_lastAt_19 : decode cX7_lastAt 19 = .ok (.iload_n 1, 1) := by decide +kernel
theorem dX7_lastAt_20 : decode cX7_lastAt 20 = .ok (.iload_n 2, 1) := by decide +kernel
theorem dX7_lastAt_21 : decode cX7_lastAt 21 = .ok (.iload 4, 2) := by decide +kernel
theorem dX7_lastAt_23 : decode cX7_lastAt 23 = .ok (.invokevirtual 64, 3) := by decide +kernel
theorem dX7_lastAt_26 : decode cX7_lastAt 26 = .ok (.invokevirtual 105, 3) := by decide +kernel
theorem dX7_lastAt_29 : decode cX7_lastAt 29 = .ok (.ifCond .eq 8, 3) := by decide +kernel
theorem dX7_lastAt_32 : decode cX7_lastAt 32 = .ok (.iload 4, 2) := by decide +kernel
theorem dX7_lastAt_34 : decode cX7_lastAt 34 = .ok (.goto 4, 3) := by decide +kernel
theorem dX7_lastAt_37 : decode cX7_lastAt 37 = .ok (.iload_n 3, 1) := by decide +kernel
theorem dX7_lastAt_38 : decode cX7_lastAt 38 = .ok (.istore_n 3, 1) := by decide +kernel
theorem dX7_lastAt_39 : decode cX7_lastAt 39 = .ok (.iinc 4 1, 3) := by decide +kernel
theorem dX7_lastAt_42 : decode cX7_lastAt 42 = .ok (.goto (-36), 3) := by decide +kernel
theorem dX7_lastAt_45 : decode cX7_lastAt 45 = .ok (.iload_n 3, 1) := by decide +kernel
theorem dX7_lastAt_46 : decode cX7_lastAt 46 = .ok (.ireturn, 1) := by decide +kernel
theorem dX7_stateOf_0 : decode cX7_stateOf 0 = .ok (.aload_n 0, 1) := by decide +kernel
theorem dX7_stateOf_1 : decode cX7_stateOf 1 = .ok (.iload_n 1, 1) := by decide +kernel
theorem dX7_stateOf_2 : decode cX7_stateOf 2 = .ok (.iload_n 2, 1) := by decide +kernel
theorem dX7_stateOf_3 : decode cX7_stateOf 3 = .ok (.invokevirtual 108, 3) := by decide +kernel
theorem dX7_stateOf_6 : decode cX7_stateOf 6 = .ok (.istore_n 3, 1) := by decide +kernel
theorem dX7_stateOf_7 : decode cX7_stateOf 7 = .ok (.iload_n 3, 1) := by decide +kernel
theorem dX7_stateOf_8 : decode cX7_stateOf 8 = .ok (.ifCond .ge 5, 3) := by decide +kernel
theorem dX7_stateOf_11 : decode cX7_stateOf 11 = .ok (.iconst 0, 1) := by decide +kernel
theorem dX7_stateOf_12 : decode cX7_stateOf 12 = .ok (.ireturn, 1) := by decide +kernel
theorem dX7_stateOf_13 : decode cX7_stateOf 13 = .ok (.aload_n 0, 1) := by decide +kernel
theorem dX7_stateOf_14 : decode cX7_stateOf 14 = .ok (.iload_n 1, 1) := by decide +kernel
theorem dX7_stateOf_15 : decode cX7_stateOf 15 = .ok (.iload_n 2, 1) := by decide +kernel
theorem dX7_stateOf_16 : decode cX7_stateOf 16 = .ok (.iload_n 3, 1) := by decide +kernel
theorem dX7_stateOf_17 : decode cX7_stateOf 17 = .ok (.invokevirtual 64, 3) := by decide +kernel
theorem dX7_stateOf_20 : decode cX7_stateOf 20 = .ok (.istore 4, 2) := by decide +kernel
theorem dX7_stateOf_22 : decode cX7_stateOf 22 = .ok (.iconst 0, 1) := by decide +kernel
theorem dX7_stateOf_23 : decode cX7_stateOf 23 = .ok (.istore 5, 2) := by decide +kernel
theorem dX7_stateOf_25 : decode cX7_stateOf 25 = .ok (.iconst 0, 1) := by decide +kernel
theorem dX7_stateOf_26 : decode cX7_stateOf 26 = .ok (.istore 6, 2) := by decide +kernel
theorem dX7_stateOf_28 : decode cX7_stateOf 28 = .ok (.iload 6, 2) := by decide +kernel
theorem dX7_stateOf_30 : decode cX7_stateOf 30 = .ok (.iload_n 3, 1) := by decide +kernel
theorem dX7_stateOf_31 : decode cX7_stateOf 31 = .ok (.if_icmp .ge 73, 3) := by decide +kernel
theorem dX7_stateOf_34 : decode cX7_stateOf 34 = .ok (.aload_n 0, 1) := by decide +kernel
theorem dX7_stateOf_35 : decode cX7_stateOf 35 = .ok (.iload_n 1, 1) := by decide +kernel
theorem dX7_stateOf_36 : decode cX7_stateOf 36 = .ok (.iload_n 2, 1) := by decide +kernel
theorem dX7_stateOf_37 : decode cX7_stateOf 37 = .ok (.iload 6, 2) := by decide +kernel
theorem dX7_stateOf_39 : decode cX7_stateOf 39 = .ok (.invokevirtual 64, 3) := by decide +kernel
theorem dX7_stateOf_42 : decode cX7_stateOf 42 = .ok (.istore 7, 2) := by decide +kernel
theorem dX7_stateOf_44 : decode cX7_stateOf 44 = .ok (.iload 5, 2) := by decide +kernel
theorem dX7_stateOf_46 : decode cX7_stateOf 46 = .ok (.ifCond .ne 45, 3) := by decide +kernel
theorem dX7_stateOf_49 : decode cX7_stateOf 49 = .ok (.aload_n 0, 1) := by decide +kernel
theorem dX7_stateOf_50 : decode cX7_stateOf 50 = .ok (.iload 7, 2) := by decide +kernel
theorem dX7_stateOf_52 : decode cX7_stateOf 52 = .ok (.invokevirtual 105, 3) := by decide +kernel
theorem dX7_stateOf_55 : decode cX7_stateOf 55 = .ok (.ifCond .eq 40, 3) := by decide +kernel
theorem dX7_stateOf_58 : decode cX7_stateOf 58 = .ok (.iload 7, 2) := by decide +kernel
theorem dX7_stateOf_60 : decode cX7_stateOf 60 = .ok (.invokestatic 111, 3) := by decide +kernel
theorem dX7_stateOf_63 : decode cX7_stateOf 63 = .ok (.iload 4, 2) := by decide +kernel
theorem dX7_stateOf_65 : decode cX7_stateOf 65 = .ok (.invokestatic 111, 3) := by decide +kernel
theorem dX7_stateOf_68 : decode cX7_stateOf 68 = .ok (.if_icmp .eq 27, 3) := by decide +kernel
theorem dX7_stateOf_71 : decode cX7_stateOf 71 = .ok (.iload 7, 2) := by decide +kernel
theorem dX7_stateOf_73 : decode cX7_stateOf 73 = .ok (.invokestatic 71, 3) := by decide +kernel
theorem dX7_stateOf_76 : decode cX7_stateOf 76 = .ok (.iload 4, 2) := by decide +kernel
theorem dX7_stateOf_78 : decode cX7_stateOf 78 = .ok (.invokestatic 71, 3) := by decide +kernel
theorem dX7_stateOf_81 : decode cX7_stateOf 81 = .ok (.aload_n 0, 1) := by decide +kernel
theorem dX7_stateOf_82 : decode cX7_stateOf 82 = .ok (.getfield 7, 3) := by decide +kernel
theorem dX7_stateOf_85 : decode cX7_stateOf 85 = .ok (.iconst 1, 1) := by decide +kernel
theorem dX7_stateOf_86 : decode cX7_stateOf 86 = .ok (.iaload, 1) := by decide +kernel
theorem dX7_stateOf_87 : decode cX7_stateOf 87 = .ok (.iadd, 1) := by decide +kernel
theorem dX7_stateOf_88 : decode cX7_stateOf 88 = .ok (.if_icmp .le 7, 3) := by decide +kernel
theorem dX7_stateOf_91 : decode cX7_stateOf 91 = .ok (.iconst 1, 1) := by decide +kernel
theorem dX7_stateOf_92 : decode cX7_stateOf 92 = .ok (.goto 4, 3) := by decide +kernel
theorem dX7_stateOf_95 : decode cX7_stateOf 95 = .ok (.iconst 0, 1) := by decide +kernel
theorem dX7_stateOf_96 : decode cX7_stateOf 96 = .ok (.istore 5, 2) := by decide +kernel
theorem dX7_stateOf_98 : decode cX7_stateOf 98 = .ok (.iinc 6 1, 3) := by decide +kernel
theorem dX7_stateOf_101 : decode cX7_stateOf 101 = .ok (.goto (-73), 3) := by decide +kernel
theorem dX7_stateOf_104 : decode cX7_stateOf 104 = .ok (.iload 5, 2) := by decide +kernel
theorem dX7_stateOf_106 : decode cX7_stateOf 106 = .ok (.ifCond .eq 7, 3) := by decide +kernel
theorem dX7_stateOf_109 : decode cX7_stateOf 109 = .ok (.iconst 2, 1) := by decide +kernel
theorem dX7_stateOf_110 : decode cX7_stateOf 110 = .ok (.goto 4, 3) := by decide +kernel
theorem dX7_stateOf_113 : decode cX7_stateOf 113 = .ok (.iconst 1, 1) := by decide +kernel
theorem dX7_stateOf_114 : decode cX7_stateOf 114 = .ok (.ireturn, 1) := by decide +kernel
theorem dX7_lastOf_0 : decode cX7_lastOf 0 = .ok (.aload_n 0, 1) := by decide +kernel
theorem dX7_lastOf_1 : decode cX7_lastOf 1 = .ok (.iload_n 1, 1) := by decide +kernel
theorem dX7_lastOf_2 : decode cX7_lastOf 2 = .ok (.iload_n 2, 1) := by decide +kernel
theorem dX7_lastOf_3 : decode cX7_lastOf 3 = .ok (.invokevirtual 108, 3) := by decide +kernel
theorem dX7_lastOf_6 : decode cX7_lastOf 6 = .ok (.istore 4, 2) := by decide +kernel
theorem dX7_lastOf_8 : decode cX7_lastOf 8 = .ok (.iload 4, 2) := by decide +kernel
theorem dX7_lastOf_10 : decode cX7_lastOf 10 = .ok (.ifCond .ge 6, 3) := by decide +kernel
theorem dX7_lastOf_13 : decode cX7_lastOf 13 = .ok (.bipush (-6), 2) := by decide +kernel
theorem dX7_lastOf_15 : decode cX7_lastOf 15 = .ok (.ireturn, 1) := by decide +kernel
theorem dX7_lastOf_16 : decode cX7_lastOf 16 = .ok (.aload_n 0, 1) := by decide +kernel
theorem dX7_lastOf_17 : decode cX7_lastOf 17 = .ok (.iload_n 1, 1) := by decide +kernel
theorem dX7_lastOf_18 : decode cX7_lastOf 18 = .ok (.iload_n 2, 1) := by decide +kernel
theorem dX7_lastOf_19 : decode cX7_lastOf 19 = .ok (.iload 4, 2) := by decide +kernel
theorem dX7_lastOf_21 : decode cX7_lastOf 21 = .ok (.invokevirtual 64, 3) := by decide +kernel
theorem dX7_lastOf_24 : decode cX7_lastOf 24 = .ok (.istore 5, 2) := by decide +kernel
theorem dX7_lastOf_26 : decode cX7_lastOf 26 = .ok (.iload_n 3, 1) := by decide +kernel
theorem dX7_lastOf_27 : decode cX7_lastOf 27 = .ok (.ifCond .ne 11, 3) := by decide +kernel
theorem dX7_lastOf_30 : decode cX7_lastOf 30 = .ok (.iload 5, 2) := by decide +kernel
theorem dX7_lastOf_32 : decode cX7_lastOf 32 = .ok (.invokestatic 111, 3) := by decide +kernel
theorem dX7_lastOf_35 : decode cX7_lastOf 35 = .ok (.goto 8, 3) := by decide +kernel
theorem dX7_lastOf_38 : decode cX7_lastOf 38 = .ok (.iload 5, 2) := by decide +kernel
theorem dX7_lastOf_40 : decode cX7_lastOf 40 = .ok (.invokestatic 71, 3) := by decide +kernel
theorem dX7_lastOf_43 : decode cX7_lastOf 43 = .ok (.ireturn, 1) := by decide +kernel
theorem dX7_fieldsOf_0 : decode cX7_fieldsOf 0 = .ok (.iconst 0, 1) := by decide +kernel
theorem dX7_fieldsOf_1 : decode cX7_fieldsOf 1 = .ok (.istore_n 3, 1) := by decide +kernel
theorem dX7_fieldsOf_2 : decode cX7_fieldsOf 2 = .ok (.iconst 0, 1) := by decide +kernel
theorem dX7_fieldsOf_3 : decode cX7_fieldsOf 3 = .ok (.istore 4, 2) := by decide +kernel
theorem dX7_fieldsOf_5 : decode cX7_fieldsOf 5 = .ok (.iload 4, 2) := by decide +kernel
theorem dX7_fieldsOf_7 : decode cX7_fieldsOf 7 = .ok (.bipush 10, 2) := by decide +kernel
theorem dX7_fieldsOf_9 : decode cX7_fieldsOf 9 = .ok (.if_icmp .ge 31, 3) := by decide +kernel
theorem dX7_fieldsOf_12 : decode cX7_fieldsOf 12 = .ok (.iload_n 3, 1) := by decide +kernel
theorem dX7_fieldsOf_13 : decode cX7_fieldsOf 13 = .ok (.aload_n 0, 1) := by decide +kernel
theorem dX7_fieldsOf_14 : decode cX7_fieldsOf 14 = .ok (.iload_n 1, 1) := by decide +kernel
theorem dX7_fieldsOf_15 : decode cX7_fieldsOf 15 = .ok (.iload 4, 2) := by decide +kernel
theorem dX7_fieldsOf_17 : decode cX7_fieldsOf 17 = .ok (.invokevirtual 114, 3) := by decide +kernel
theorem dX7_fieldsOf_20 : decode cX7_fieldsOf 20 = .ok (.iload_n 2, 1) := by decide +kernel
theorem dX7_fieldsOf_21 : decode cX7_fieldsOf 21 = .ok (.if_icmp .ne 10, 3) := by decide +kernel
theorem dX7_fieldsOf_24 : decode cX7_fieldsOf 24 = .ok (.iconst 1, 1) := by decide +kernel
theorem dX7_fieldsOf_25 : decode cX7_fieldsOf 25 = .ok (.iload 4, 2) := by decide +kernel
theorem dX7_fieldsOf_27 : decode cX7_fieldsOf 27 = .ok (.ishl, 1) := by decide +kernel
theorem dX7_fieldsOf_28 : decode cX7_fieldsOf 28 = .ok (.goto 4, 3) := by decide +kernel
theorem dX7_fieldsOf_31 : decode cX7_fieldsOf 31 = .ok (.iconst 0, 1) := by decide +kernel
theorem dX7_fieldsOf_32 : decode cX7_fieldsOf 32 = .ok (.ior, 1) := by decide +kernel
theorem dX7_fieldsOf_33 : decode cX7_fieldsOf 33 = .ok (.istore_n 3, 1) := by decide +kernel
theorem dX7_fieldsOf_34 : decode cX7_fieldsOf 34 = .ok (.iinc 4 1, 3) := by decide +kernel
theorem dX7_fieldsOf_37 : decode cX7_fieldsOf 37 = .ok (.goto (-32), 3) := by decide +kernel
theorem dX7_fieldsOf_40 : decode cX7_fieldsOf 40 = .ok (.iload_n 3, 1) := by decide +kernel
theorem dX7_fieldsOf_41 : decode cX7_fieldsOf 41 = .ok (.ireturn, 1) := by decide +kernel
theorem dX7_marksOf_0 : decode cX7_marksOf 0 = .ok (.iconst 0, 1) := by decide +kernel
theorem dX7_marksOf_1 : decode cX7_marksOf 1 = .ok (.istore_n 3, 1) := by decide +kernel
theorem dX7_marksOf_2 : decode cX7_marksOf 2 = .ok (.iconst 0, 1) := by decide +kernel
theorem dX7_marksOf_3 : decode cX7_marksOf 3 = .ok (.istore 4, 2) := by decide +kernel
theorem dX7_marksOf_5 : decode cX7_marksOf 5 = .ok (.iload 4, 2) := by decide +kernel
theorem dX7_marksOf_7 : decode cX7_marksOf 7 = .ok (.bipush 10, 2) := by decide +kernel
theorem dX7_marksOf_9 : decode cX7_marksOf 9 = .ok (.if_icmp .ge 57, 3) := by decide +kernel
theorem dX7_marksOf_12 : decode cX7_marksOf 12 = .ok (.iconst 0, 1) := by decide +kernel
theorem dX7_marksOf_13 : decode cX7_marksOf 13 = .ok (.istore 5, 2) := by decide +kernel
theorem dX7_marksOf_15 : decode cX7_marksOf 15 = .ok (.iload 5, 2) := by decide +kernel
theorem dX7_marksOf_17 : decode cX7_marksOf 17 = .ok (.aload_n 0, 1) := by decide +kernel
theorem dX7_marksOf_18 : decode cX7_marksOf 18 = .ok (.iload_n 1, 1) := by decide +kernel
theorem dX7_marksOf_19 : decode cX7_marksOf 19 = .ok (.iload 4, 2) := by decide +kernel
theorem dX7_marksOf_21 : decode cX7_marksOf 21 = .ok (.invokevirtual 61, 3) := by decide +kernel
theorem dX7_marksOf_24 : decode cX7_marksOf 24 = .ok (.if_icmp .ge 36, 3) := by decide +kernel
theorem dX7_marksOf_27 : decode cX7_marksOf 27 = .ok (.iload_n 3, 1) := by decide +kernel
theorem dX7_marksOf_28 : decode cX7_marksOf 28 = .ok (.iload_n 2, 1) := by decide +kernel
theorem dX7_marksOf_29 : decode cX7_marksOf 29 = .ok (.ifCond .eq 18, 3) := by decide +kernel
theorem dX7_marksOf_32 : decode cX7_marksOf 32 = .ok (.aload_n 0, 1) := by decide +kernel
theorem dX7_marksOf_33 : decode cX7_marksOf 33 = .ok (.iload_n 1, 1) := by decide +kernel
theorem dX7_marksOf_34 : decode cX7_marksOf 34 = .ok (.iload 4, 2) := by decide +kernel
theorem dX7_marksOf_36 : decode cX7_marksOf 36 = .ok (.iload 5, 2) := by decide +kernel
theorem dX7_marksOf_38 : decode cX7_marksOf 38 = .ok (.invokevirtual 64, 3) := by decide +kernel
theorem dX7_marksOf_41 : decode cX7_marksOf 41 = .ok (.invokestatic 68, 3) := by decide +kernel
theorem dX7_marksOf_44 : decode cX7_marksOf 44 = .ok (.ifCond .eq 7, 3) := by decide +kernel
theorem dX7_marksOf_47 : decode cX7_marksOf 47 = .ok (.iconst 1, 1) := by decide +kernel
theorem dX7_marksOf_48 : decode cX7_marksOf 48 = .ok (.goto 4, 3) := by decide +kernel
theorem dX7_marksOf_51 : decode cX7_marksOf 51 = .ok (.iconst 0, 1) := by decide +kernel
theorem dX7_marksOf_52 : decode cX7_marksOf 52 = .ok (.iadd, 1) := by decide +kernel
theorem dX7_marksOf_53 : decode cX7_marksOf 53 = .ok (.istore_n 3, 1) := by decide +kernel
theorem dX7_marksOf_54 : decode cX7_marksOf 54 = .ok (.iinc 5 1, 3) := by decide +kernel
theorem dX7_marksOf_57 : decode cX7_marksOf 57 = .ok (.goto (-42), 3) := by decide +kernel
theorem dX7_marksOf_60 : decode cX7_marksOf 60 = .ok (.iinc 4 1, 3) := by decide +kernel
theorem dX7_marksOf_63 : decode cX7_marksOf 63 = .ok (.goto (-58), 3) := by decide +kernel
theorem dX7_marksOf_66 : decode cX7_marksOf 66 = .ok (.iload_n 3, 1) := by decide +kernel
theorem dX7_marksOf_67 : decode cX7_marksOf 67 = .ok (.ireturn, 1) := by decide +kernel
theorem dX7_ofSheet_0 : decode cX7_ofSheet 0 = .ok (.iload_n 1, 1) := by decide +kernel
theorem dX7_ofSheet_1 : decode cX7_ofSheet 1 = .ok (.invokestatic 50, 3) := by decide +kernel
theorem dX7_ofSheet_4 : decode cX7_ofSheet 4 = .ok (.ifCond .ne 5, 3) := by decide +kernel
theorem dX7_ofSheet_7 : decode cX7_ofSheet 7 = .ok (.iconst (-1), 1) := by decide +kernel
theorem dX7_ofSheet_8 : decode cX7_ofSheet 8 = .ok (.ireturn, 1) := by decide +kernel
theorem dX7_ofSheet_9 : decode cX7_ofSheet 9 = .ok (.iload_n 2, 1) := by decide +kernel
theorem dX7_ofSheet_10 : decode cX7_ofSheet 10 = .ok (.tableswitch 100 0 6 #[42, 51, 61, 75, 75, 91, 91], 42) := by decide +kernel
theorem dX7_ofSheet_52 : decode cX7_ofSheet 52 = .ok (.aload_n 0, 1) := by decide +kernel
theorem dX7_ofSheet_53 : decode cX7_ofSheet 53 = .ok (.getfield 7, 3) := by decide +kernel
theorem dX7_ofSheet_56 : decode cX7_ofSheet 56 = .ok (.iconst 4, 1) := by decide +kernel
theorem dX7_ofSheet_57 : decode cX7_ofSheet 57 = .ok (.iload_n 1, 1) := by decide +kernel
theorem dX7_ofSheet_58 : decode cX7_ofSheet 58 = .ok (.iadd, 1) := by decide +kernel
theorem dX7_ofSheet_59 : decode cX7_ofSheet 59 = .ok (.iaload, 1) := by decide +kernel
theorem dX7_ofSheet_60 : decode cX7_ofSheet 60 = .ok (.ireturn, 1) := by decide +kernel
theorem dX7_ofSheet_61 : decode cX7_ofSheet 61 = .ok (.aload_n 0, 1) := by decide +kernel
theorem dX7_ofSheet_62 : decode cX7_ofSheet 62 = .ok (.getfield 7, 3) := by decide +kernel
theorem dX7_ofSheet_65 : decode cX7_ofSheet 65 = .ok (.bipush 9, 2) := by decide +kernel
theorem dX7_ofSheet_67 : decode cX7_ofSheet 67 = .ok (.iload_n 1, 1) := by decide +kernel
theorem dX7_ofSheet_68 : decode cX7_ofSheet 68 = .ok (.iadd, 1) := by decide +kernel
theorem dX7_ofSheet_69 : decode cX7_ofSheet 69 = .ok (.iaload, 1) := by decide +kernel
theorem dX7_ofSheet_70 : decode cX7_ofSheet 70 = .ok (.ireturn, 1) := by decide +kernel
theorem dX7_ofSheet_71 : decode cX7_ofSheet 71 = .ok (.aload_n 0, 1) := by decide +kernel
theorem dX7_ofSheet_72 : decode cX7_ofSheet 72 = .ok (.iload_n 1, 1) := by decide +kernel
theorem dX7_ofSheet_73 : decode cX7_ofSheet 73 = .ok (.invokevirtual 54, 3) := by decide +kernel
theorem dX7_ofSheet_76 : decode cX7_ofSheet 76 = .ok (.ifCond .eq 7, 3) := by decide +kernel
theorem dX7_ofSheet_79 : decode cX7_ofSheet 79 = .ok (.iconst 0, 1) := by decide +kernel
theorem dX7_ofSheet_80 : decode cX7_ofSheet 80 = .ok (.goto 4, 3) := by decide +kernel
theorem dX7_ofSheet_83 : decode cX7_ofSheet 83 = .ok (.iconst 1, 1) := by decide +kernel
theorem dX7_ofSheet_84 : decode cX7_ofSheet 84 = .ok (.ireturn, 1) := by decide +kernel
theorem dX7_ofSheet_85 : decode cX7_ofSheet 85 = .ok (.aload_n 0, 1) := by decide +kernel
theorem dX7_ofSheet_86 : decode cX7_ofSheet 86 = .ok (.iload_n 1, 1) := by decide +kernel
theorem dX7_ofSheet_87 : decode cX7_ofSheet 87 = .ok (.iload_n 2, 1) := by decide +kernel
theorem dX7_ofSheet_88 : decode cX7_ofSheet 88 = .ok (.iconst 4, 1) := by decide +kernel
theorem dX7_ofSheet_89 : decode cX7_ofSheet 89 = .ok (.if_icmp .ne 7, 3) := by decide +kernel
theorem dX7_ofSheet_92 : decode cX7_ofSheet 92 = .ok (.iconst 1, 1) := by decide +kernel
theorem dX7_ofSheet_93 : decode cX7_ofSheet 93 = .ok (.goto 4, 3) := by decide +kernel
theorem dX7_ofSheet_96 : decode cX7_ofSheet 96 = .ok (.iconst 0, 1) := by decide +kernel
theorem dX7_ofSheet_97 : decode cX7_ofSheet 97 = .ok (.invokevirtual 117, 3) := by decide +kernel
theorem dX7_ofSheet_100 : decode cX7_ofSheet 100 = .ok (.ireturn, 1) := by decide +kernel
theorem dX7_ofSheet_101 : decode cX7_ofSheet 101 = .ok (.aload_n 0, 1) := by decide +kernel
theorem dX7_ofSheet_102 : decode cX7_ofSheet 102 = .ok (.iload_n 1, 1) := by decide +kernel
theorem dX7_ofSheet_103 : decode cX7_ofSheet 103 = .ok (.iload_n 2, 1) := by decide +kernel
theorem dX7_ofSheet_104 : decode cX7_ofSheet 104 = .ok (.iconst 4, 1) := by decide +kernel
theorem dX7_ofSheet_105 : decode cX7_ofSheet 105 = .ok (.isub, 1) := by decide +kernel
theorem dX7_ofSheet_106 : decode cX7_ofSheet 106 = .ok (.invokevirtual 121, 3) := by decide +kernel
theorem dX7_ofSheet_109 : decode cX7_ofSheet 109 = .ok (.ireturn, 1) := by decide +kernel
theorem dX7_ofSheet_110 : decode cX7_ofSheet 110 = .ok (.iload_n 2, 1) := by decide +kernel
theorem dX7_ofSheet_111 : decode cX7_ofSheet 111 = .ok (.bipush 7, 2) := by decide +kernel
theorem dX7_ofSheet_113 : decode cX7_ofSheet 113 = .ok (.if_icmp .ne 15, 3) := by decide +kernel
theorem dX7_ofSheet_116 : decode cX7_ofSheet 116 = .ok (.aload_n 0, 1) := by decide +kernel
theorem dX7_ofSheet_117 : decode cX7_ofSheet 117 = .ok (.getfield 7, 3) := by decide +kernel
theorem dX7_ofSheet_120 : decode cX7_ofSheet 120 = .ok (.bipush 14, 2) := by decide +kernel
theorem dX7_ofSheet_122 : decode cX7_ofSheet 122 = .ok (.iload_n 1, 1) := by decide +kernel
theorem dX7_ofSheet_123 : decode cX7_ofSheet 123 = .ok (.iadd, 1) := by decide +kernel
theorem dX7_ofSheet_124 : decode cX7_ofSheet 124 = .ok (.iaload, 1) := by decide +kernel
theorem dX7_ofSheet_125 : decode cX7_ofSheet 125 = .ok (.goto 5, 3) := by decide +kernel
theorem dX7_ofSheet_128 : decode cX7_ofSheet 128 = .ok (.bipush (-2), 2) := by decide +kernel
theorem dX7_ofSheet_130 : decode cX7_ofSheet 130 = .ok (.ireturn, 1) := by decide +kernel
theorem dX7_reading_0 : decode cX7_reading 0 = .ok (.iload_n 1, 1) := by decide +kernel
theorem dX7_reading_1 : decode cX7_reading 1 = .ok (.invokestatic 50, 3) := by decide +kernel
theorem dX7_reading_4 : decode cX7_reading 4 = .ok (.ifCond .eq 10, 3) := by decide +kernel
theorem dX7_reading_7 : decode cX7_reading 7 = .ok (.iload_n 2, 1) := by decide +kernel
theorem dX7_reading_8 : decode cX7_reading 8 = .ok (.invokestatic 75, 3) := by decide +kernel
theorem dX7_reading_11 : decode cX7_reading 11 = .ok (.ifCond .ne 5, 3) := by decide +kernel
theorem dX7_reading_14 : decode cX7_reading 14 = .ok (.iconst (-1), 1) := by decide +kernel
theorem dX7_reading_15 : decode cX7_reading 15 = .ok (.ireturn, 1) := by decide +kernel
theorem dX7_reading_16 : decode cX7_reading 16 = .ok (.iconst 0, 1) := by decide +kernel
theorem dX7_reading_17 : decode cX7_reading 17 = .ok (.istore 4, 2) := by decide +kernel
theorem dX7_reading_19 : decode cX7_reading 19 = .ok (.iconst 0, 1) := by decide +kernel
theorem dX7_reading_20 : decode cX7_reading 20 = .ok (.istore 5, 2) := by decide +kernel
theorem dX7_reading_22 : decode cX7_reading 22 = .ok (.iload 5, 2) := by decide +kernel
theorem dX7_reading_24 : decode cX7_reading 24 = .ok (.aload_n 0, 1) := by decide +kernel
theorem dX7_reading_25 : decode cX7_reading 25 = .ok (.iload_n 1, 1) := by decide +kernel
theorem dX7_reading_26 : decode cX7_reading 26 = .ok (.iload_n 2, 1) := by decide +kernel
theorem dX7_reading_27 : decode cX7_reading 27 = .ok (.invokevirtual 61, 3) := by decide +kernel
theorem dX7_reading_30 : decode cX7_reading 30 = .ok (.if_icmp .ge 34, 3) := by decide +kernel
theorem dX7_reading_33 : decode cX7_reading 33 = .ok (.iload 4, 2) := by decide +kernel
theorem dX7_reading_35 : decode cX7_reading 35 = .ok (.aload_n 0, 1) := by decide +kernel
theorem dX7_reading_36 : decode cX7_reading 36 = .ok (.aload_n 0, 1) := by decide +kernel
theorem dX7_reading_37 : decode cX7_reading 37 = .ok (.iload_n 1, 1) := by decide +kernel
theorem dX7_reading_38 : decode cX7_reading 38 = .ok (.iload_n 2, 1) := by decide +kernel
theorem dX7_reading_39 : decode cX7_reading 39 = .ok (.iload 5, 2) := by decide +kernel
theorem dX7_reading_41 : decode cX7_reading 41 = .ok (.invokevirtual 64, 3) := by decide +kernel
theorem dX7_reading_44 : decode cX7_reading 44 = .ok (.invokevirtual 105, 3) := by decide +kernel
theorem dX7_reading_47 : decode cX7_reading 47 = .ok (.ifCond .eq 7, 3) := by decide +kernel
theorem dX7_reading_50 : decode cX7_reading 50 = .ok (.iconst 1, 1) := by decide +kernel
theorem dX7_reading_51 : decode cX7_reading 51 = .ok (.goto 4, 3) := by decide +kernel
theorem dX7_reading_54 : decode cX7_reading 54 = .ok (.iconst 0, 1) := by decide +kernel
theorem dX7_reading_55 : decode cX7_reading 55 = .ok (.iadd, 1) := by decide +kernel
theorem dX7_reading_56 : decode cX7_reading 56 = .ok (.istore 4, 2) := by decide +kernel
theorem dX7_reading_58 : decode cX7_reading 58 = .ok (.iinc 5 1, 3) := by decide +kernel
theorem dX7_reading_61 : decode cX7_reading 61 = .ok (.goto (-39), 3) := by decide +kernel
theorem dX7_reading_64 : decode cX7_reading 64 = .ok (.iload_n 3, 1) := by decide +kernel
theorem dX7_reading_65 : decode cX7_reading 65 = .ok (.tableswitch 55 0 3 #[31, 38, 38, 48], 31) := by decide +kernel
theorem dX7_reading_96 : decode cX7_reading 96 = .ok (.aload_n 0, 1) := by decide +kernel
theorem dX7_reading_97 : decode cX7_reading 97 = .ok (.iload_n 1, 1) := by decide +kernel
theorem dX7_reading_98 : decode cX7_reading 98 = .ok (.iload_n 2, 1) := by decide +kernel
theorem dX7_reading_99 : decode cX7_reading 99 = .ok (.invokevirtual 114, 3) := by decide +kernel
theorem dX7_reading_102 : decode cX7_reading 102 = .ok (.ireturn, 1) := by decide +kernel
theorem dX7_reading_103 : decode cX7_reading 103 = .ok (.aload_n 0, 1) := by decide +kernel
theorem dX7_reading_104 : decode cX7_reading 104 = .ok (.iload_n 1, 1) := by decide +kernel
theorem dX7_reading_105 : decode cX7_reading 105 = .ok (.iload_n 2, 1) := by decide +kernel
theorem dX7_reading_106 : decode cX7_reading 106 = .ok (.iload_n 3, 1) := by decide +kernel
theorem dX7_reading_107 : decode cX7_reading 107 = .ok (.iconst 1, 1) := by decide +kernel
theorem dX7_reading_108 : decode cX7_reading 108 = .ok (.isub, 1) := by decide +kernel
theorem dX7_reading_109 : decode cX7_reading 109 = .ok (.invokevirtual 124, 3) := by decide +kernel
theorem dX7_reading_112 : decode cX7_reading 112 = .ok (.ireturn, 1) := by decide +kernel
theorem dX7_reading_113 : decode cX7_reading 113 = .ok (.aload_n 0, 1) := by decide +kernel
theorem dX7_reading_114 : decode cX7_reading 114 = .ok (.iload_n 1, 1) := by decide +kernel
theorem dX7_reading_115 : decode cX7_reading 115 = .ok (.iload_n 2, 1) := by decide +kernel
theorem dX7_reading_116 : decode cX7_reading 116 = .ok (.invokevirtual 61, 3) := by decide +kernel
theorem dX7_reading_119 : decode cX7_reading 119 = .ok (.ireturn, 1) := by decide +kernel
theorem dX7_reading_120 : decode cX7_reading 120 = .ok (.iload_n 3, 1) := by decide +kernel
theorem dX7_reading_121 : decode cX7_reading 121 = .ok (.iconst 4, 1) := by decide +kernel
theorem dX7_reading_122 : decode cX7_reading 122 = .ok (.if_icmp .ne 8, 3) := by decide +kernel
theorem dX7_reading_125 : decode cX7_reading 125 = .ok (.iload 4, 2) := by decide +kernel
theorem dX7_reading_127 : decode cX7_reading 127 = .ok (.goto 5, 3) := by decide +kernel
theorem dX7_reading_130 : decode cX7_reading 130 = .ok (.bipush (-2), 2) := by decide +kernel
theorem dX7_reading_132 : decode cX7_reading 132 = .ok (.ireturn, 1) := by decide +kernel
theorem dX7_ofMark_0 : decode cX7_ofMark 0 = .ok (.iload_n 1, 1) := by decide +kernel
theorem dX7_ofMark_1 : decode cX7_ofMark 1 = .ok (.invokestatic 50, 3) := by decide +kernel
theorem dX7_ofMark_4 : decode cX7_ofMark 4 = .ok (.ifCond .eq 26, 3) := by decide +kernel
theorem dX7_ofMark_7 : decode cX7_ofMark 7 = .ok (.iload_n 2, 1) := by decide +kernel
theorem dX7_ofMark_8 : decode cX7_ofMark 8 = .ok (.invokestatic 75, 3) := by decide +kernel
theorem dX7_ofMark_11 : decode cX7_ofMark 11 = .ok (.ifCond .eq 19, 3) := by decide +kernel
theorem dX7_ofMark_14 : decode cX7_ofMark 14 = .ok (.iload_n 3, 1) := by decide +kernel
theorem dX7_ofMark_15 : decode cX7_ofMark 15 = .ok (.iconst 0, 1) := by decide +kernel
theorem dX7_ofMark_16 : decode cX7_ofMark 16 = .ok (.aload_n 0, 1) := by decide +kernel
theorem dX7_ofMark_17 : decode cX7_ofMark 17 = .ok (.iload_n 1, 1) := by decide +kernel
theorem dX7_ofMark_18 : decode cX7_ofMark 18 = .ok (.iload_n 2, 1) := by decide +kernel
theorem dX7_ofMark_19 : decode cX7_ofMark 19 = .ok (.invokevirtual 61, 3) := by decide +kernel
theorem dX7_ofMark_22 : decode cX7_ofMark 22 = .ok (.iconst 1, 1) := by decide +kernel
theorem dX7_ofMark_23 : decode cX7_ofMark 23 = .ok (.isub, 1) := by decide +kernel
theorem dX7_ofMark_24 : decode cX7_ofMark 24 = .ok (.invokestatic 43, 3) := by decide +kernel
theorem dX7_ofMark_27 : decode cX7_ofMark 27 = .ok (.ifCond .ne 5, 3) := by decide +kernel
theorem dX7_ofMark_30 : decode cX7_ofMark 30 = .ok (.iconst (-1), 1) := by decide +kernel
theorem dX7_ofMark_31 : decode cX7_ofMark 31 = .ok (.ireturn, 1) := by decide +kernel
theorem dX7_ofMark_32 : decode cX7_ofMark 32 = .ok (.aload_n 0, 1) := by decide +kernel
theorem dX7_ofMark_33 : decode cX7_ofMark 33 = .ok (.iload_n 1, 1) := by decide +kernel
theorem dX7_ofMark_34 : decode cX7_ofMark 34 = .ok (.iload_n 2, 1) := by decide +kernel
theorem dX7_ofMark_35 : decode cX7_ofMark 35 = .ok (.iload_n 3, 1) := by decide +kernel
theorem dX7_ofMark_36 : decode cX7_ofMark 36 = .ok (.invokevirtual 64, 3) := by decide +kernel
theorem dX7_ofMark_39 : decode cX7_ofMark 39 = .ok (.istore 5, 2) := by decide +kernel
theorem dX7_ofMark_41 : decode cX7_ofMark 41 = .ok (.iload 4, 2) := by decide +kernel
theorem dX7_ofMark_43 : decode cX7_ofMark 43 = .ok (.ifCond .ne 11, 3) := by decide +kernel
theorem dX7_ofMark_46 : decode cX7_ofMark 46 = .ok (.iload 5, 2) := by decide +kernel
theorem dX7_ofMark_48 : decode cX7_ofMark 48 = .ok (.invokestatic 111, 3) := by decide +kernel
theorem dX7_ofMark_51 : decode cX7_ofMark 51 = .ok (.goto 32, 3) := by decide +kernel
theorem dX7_ofMark_54 : decode cX7_ofMark 54 = .ok (.iload 4, 2) := by decide +kernel
theorem dX7_ofMark_56 : decode cX7_ofMark 56 = .ok (.iconst 1, 1) := by decide +kernel
theorem dX7_ofMark_57 : decode cX7_ofMark 57 = .ok (.if_icmp .ne 11, 3) := by decide +kernel
theorem dX7_ofMark_60 : decode cX7_ofMark 60 = .ok (.iload 5, 2) := by decide +kernel
theorem dX7_ofMark_62 : decode cX7_ofMark 62 = .ok (.invokestatic 71, 3) := by decide +kernel
theorem dX7_ofMark_65 : decode cX7_ofMark 65 = .ok (.goto 18, 3) := by decide +kernel
theorem dX7_ofMark_68 : decode cX7_ofMark 68 = .ok (.iload 4, 2) := by decide +kernel
theorem dX7_ofMark_70 : decode cX7_ofMark 70 = .ok (.iconst 2, 1) := by decide +kernel
theorem dX7_ofMark_71 : decode cX7_ofMark 71 = .ok (.if_icmp .ne 10, 3) := by decide +kernel
theorem dX7_ofMark_74 : decode cX7_ofMark 74 = .ok (.iload 5, 2) := by decide +kernel
theorem dX7_ofMark_76 : decode cX7_ofMark 76 = .ok (.iconst 2, 1) := by decide +kernel
theorem dX7_ofMark_77 : decode cX7_ofMark 77 = .ok (.irem, 1) := by decide +kernel
theorem dX7_ofMark_78 : decode cX7_ofMark 78 = .ok (.goto 5, 3) := by decide +kernel
theorem dX7_ofMark_81 : decode cX7_ofMark 81 = .ok (.bipush (-2), 2) := by decide +kernel
theorem dX7_ofMark_83 : decode cX7_ofMark 83 = .ok (.ireturn, 1) := by decide +kernel
theorem dX7_votesFor_0 : decode cX7_votesFor 0 = .ok (.iconst 0, 1) := by decide +kernel
theorem dX7_votesFor_1 : decode cX7_votesFor 1 = .ok (.istore_n 3, 1) := by decide +kernel
theorem dX7_votesFor_2 : decode cX7_votesFor 2 = .ok (.iconst 0, 1) := by decide +kernel
theorem dX7_votesFor_3 : decode cX7_votesFor 3 = .ok (.istore 4, 2) := by decide +kernel
theorem dX7_votesFor_5 : decode cX7_votesFor 5 = .ok (.iload 4, 2) := by decide +kernel
theorem dX7_votesFor_7 : decode cX7_votesFor 7 = .ok (.iconst 5, 1) := by decide +kernel
theorem dX7_votesFor_8 : decode cX7_votesFor 8 = .ok (.if_icmp .ge 47, 3) := by decide +kernel
theorem dX7_votesFor_11 : decode cX7_votesFor 11 = .ok (.iload_n 3, 1) := by decide +kernel
theorem dX7_votesFor_12 : decode cX7_votesFor 12 = .ok (.aload_n 0, 1) := by decide +kernel
theorem dX7_votesFor_13 : decode cX7_votesFor 13 = .ok (.iload 4, 2) := by decide +kernel
theorem dX7_votesFor_15 : decode cX7_votesFor 15 = .ok (.iload_n 1, 1) := by decide +kernel
theorem dX7_votesFor_16 : decode cX7_votesFor 16 = .ok (.invokevirtual 114, 3) := by decide +kernel
theorem dX7_votesFor_19 : decode cX7_votesFor 19 = .ok (.iconst 1, 1) := by decide +kernel
theorem dX7_votesFor_20 : decode cX7_votesFor 20 = .ok (.if_icmp .ne 26, 3) := by decide +kernel
theorem dX7_votesFor_23 : decode cX7_votesFor 23 = .ok (.aload_n 0, 1) := by decide +kernel
theorem dX7_votesFor_24 : decode cX7_votesFor 24 = .ok (.iload 4, 2) := by decide +kernel
theorem dX7_votesFor_26 : decode cX7_votesFor 26 = .ok (.iload_n 1, 1) := by decide +kernel
theorem dX7_votesFor_27 : decode cX7_votesFor 27 = .ok (.iconst 0, 1) := by decide +kernel
theorem dX7_votesFor_28 : decode cX7_votesFor 28 = .ok (.invokevirtual 124, 3) := by decide +kernel
theorem dX7_votesFor_31 : decode cX7_votesFor 31 = .ok (.iload_n 2, 1) := by decide +kernel
theorem dX7_votesFor_32 : decode cX7_votesFor 32 = .ok (.if_icmp .ne 14, 3) := by decide +kernel
theorem dX7_votesFor_35 : decode cX7_votesFor 35 = .ok (.aload_n 0, 1) := by decide +kernel
theorem dX7_votesFor_36 : decode cX7_votesFor 36 = .ok (.iload 4, 2) := by decide +kernel
theorem dX7_votesFor_38 : decode cX7_votesFor 38 = .ok (.iload_n 1, 1) := by decide +kernel
theorem dX7_votesFor_39 : decode cX7_votesFor 39 = .ok (.iconst 1, 1) := by decide +kernel
theorem dX7_votesFor_40 : decode cX7_votesFor 40 = .ok (.invokevirtual 124, 3) := by decide +kernel
theorem dX7_votesFor_43 : decode cX7_votesFor 43 = .ok (.goto 4, 3) := by decide +kernel
theorem dX7_votesFor_46 : decode cX7_votesFor 46 = .ok (.iconst 0, 1) := by decide +kernel
theorem dX7_votesFor_47 : decode cX7_votesFor 47 = .ok (.iadd, 1) := by decide +kernel
theorem dX7_votesFor_48 : decode cX7_votesFor 48 = .ok (.istore_n 3, 1) := by decide +kernel
theorem dX7_votesFor_49 : decode cX7_votesFor 49 = .ok (.iinc 4 1, 3) := by decide +kernel
theorem dX7_votesFor_52 : decode cX7_votesFor 52 = .ok (.goto (-47), 3) := by decide +kernel
theorem dX7_votesFor_55 : decode cX7_votesFor 55 = .ok (.iload_n 3, 1) := by decide +kernel
theorem dX7_votesFor_56 : decode cX7_votesFor 56 = .ok (.ireturn, 1) := by decide +kernel
theorem dX7_layTogether_0 : decode cX7_layTogether 0 = .ok (.aload_n 0, 1) := by decide +kernel
theorem dX7_layTogether_1 : decode cX7_layTogether 1 = .ok (.iconst 0, 1) := by decide +kernel
theorem dX7_layTogether_2 : decode cX7_layTogether 2 = .ok (.putfield 127, 3) := by decide +kernel
theorem dX7_layTogether_5 : decode cX7_layTogether 5 = .ok (.aload_n 0, 1) := by decide +kernel
theorem dX7_layTogether_6 : decode cX7_layTogether 6 = .ok (.bipush (-6), 2) := by decide +kernel
theorem dX7_layTogether_8 : decode cX7_layTogether 8 = .ok (.putfield 130, 3) := by decide +kernel
theorem dX7_layTogether_11 : decode cX7_layTogether 11 = .ok (.aload_n 0, 1) := by decide +kernel
theorem dX7_layTogether_12 : decode cX7_layTogether 12 = .ok (.bipush (-6), 2) := by decide +kernel
theorem dX7_layTogether_14 : decode cX7_layTogether 14 = .ok (.putfield 133, 3) := by decide +kernel
theorem dX7_layTogether_17 : decode cX7_layTogether 17 = .ok (.aload_n 0, 1) := by decide +kernel
theorem dX7_layTogether_18 : decode cX7_layTogether 18 = .ok (.iconst 0, 1) := by decide +kernel
theorem dX7_layTogether_19 : decode cX7_layTogether 19 = .ok (.putfield 136, 3) := by decide +kernel
theorem dX7_layTogether_22 : decode cX7_layTogether 22 = .ok (.aload_n 0, 1) := by decide +kernel
theorem dX7_layTogether_23 : decode cX7_layTogether 23 = .ok (.iconst 0, 1) := by decide +kernel
theorem dX7_layTogether_24 : decode cX7_layTogether 24 = .ok (.putfield 139, 3) := by decide +kernel
theorem dX7_layTogether_27 : decode cX7_layTogether 27 = .ok (.iconst 0, 1) := by decide +kernel
theorem dX7_layTogether_28 : decode cX7_layTogether 28 = .ok (.istore_n 2, 1) := by decide +kernel
theorem dX7_layTogether_29 : decode cX7_layTogether 29 = .ok (.iload_n 2, 1) := by decide +kernel
theorem dX7_layTogether_30 : decode cX7_layTogether 30 = .ok (.iconst 5, 1) := by decide +kernel
theorem dX7_layTogether_31 : decode cX7_layTogether 31 = .ok (.if_icmp .ge 199, 3) := by decide +kernel
theorem dX7_layTogether_34 : decode cX7_layTogether 34 = .ok (.aload_n 0, 1) := by decide +kernel
theorem dX7_layTogether_35 : decode cX7_layTogether 35 = .ok (.iload_n 2, 1) := by decide +kernel
theorem dX7_layTogether_36 : decode cX7_layTogether 36 = .ok (.iload_n 1, 1) := by decide +kernel
theorem dX7_layTogether_37 : decode cX7_layTogether 37 = .ok (.invokevirtual 114, 3) := by decide +kernel
theorem dX7_layTogether_40 : decode cX7_layTogether 40 = .ok (.iconst 1, 1) := by decide +kernel
theorem dX7_layTogether_41 : decode cX7_layTogether 41 = .ok (.if_icmp .ne 183, 3) := by decide +kernel
theorem dX7_layTogether_44 : decode cX7_layTogether 44 = .ok (.aload_n 0, 1) := by decide +kernel
theorem dX7_layTogether_45 : decode cX7_layTogether 45 = .ok (.iload_n 2, 1) := by decide +kernel
theorem dX7_layTogether_46 : decode cX7_layTogether 46 = .ok (.iload_n 1, 1) := by decide +kernel
theorem dX7_layTogether_47 : decode cX7_layTogether 47 = .ok (.iconst 0, 1) := by decide +kernel
theorem dX7_layTogether_48 : decode cX7_layTogether 48 = .ok (.invokevirtual 124, 3) := by decide +kernel
theorem dX7_layTogether_51 : decode cX7_layTogether 51 = .ok (.istore_n 3, 1) := by decide +kernel
theorem dX7_layTogether_52 : decode cX7_layTogether 52 = .ok (.aload_n 0, 1) := by decide +kernel
theorem dX7_layTogether_53 : decode cX7_layTogether 53 = .ok (.iload_n 1, 1) := by decide +kernel
theorem dX7_layTogether_54 : decode cX7_layTogether 54 = .ok (.iload_n 3, 1) := by decide +kernel
theorem dX7_layTogether_55 : decode cX7_layTogether 55 = .ok (.invokevirtual 142, 3) := by decide +kernel
theorem dX7_layTogether_58 : decode cX7_layTogether 58 = .ok (.istore 4, 2) := by decide +kernel
theorem dX7_layTogether_60 : decode cX7_layTogether 60 = .ok (.iconst 0, 1) := by decide +kernel
theorem dX7_layTogether_61 : decode cX7_layTogether 61 = .ok (.istore 5, 2) := by decide +kernel
theorem dX7_layTogether_63 : decode cX7_layTogether 63 = .ok (.iconst 0, 1) := by decide +kernel
theorem dX7_layTogether_64 : decode cX7_layTogether 64 = .ok (.istore 6, 2) := by decide +kernel
theorem dX7_layTogether_66 : decode cX7_layTogether 66 = .ok (.iload 6, 2) := by decide +kernel
theorem dX7_layTogether_68 : decode cX7_layTogether 68 = .ok (.iload_n 2, 1) := by decide +kernel
theorem dX7_layTogether_69 : decode cX7_layTogether 69 = .ok (.if_icmp .ge 46, 3) := by decide +kernel
theorem dX7_layTogether_72 : decode cX7_layTogether 72 = .ok (.iload 5, 2) := by decide +kernel
theorem dX7_layTogether_74 : decode cX7_layTogether 74 = .ok (.ifCond .ne 28, 3) := by decide +kernel
theorem dX7_layTogether_77 : decode cX7_layTogether 77 = .ok (.aload_n 0, 1) := by decide +kernel
theorem dX7_layTogether_78 : decode cX7_layTogether 78 = .ok (.getfield 139, 3) := by decide +kernel
theorem dX7_layTogether_81 : decode cX7_layTogether 81 = .ok (.iload 6, 2) := by decide +kernel
theorem dX7_layTogether_83 : decode cX7_layTogether 83 = .ok (.ishr, 1) := by decide +kernel
theorem dX7_layTogether_84 : decode cX7_layTogether 84 = .ok (.iconst 1, 1) := by decide +kernel
theorem dX7_layTogether_85 : decode cX7_layTogether 85 = .ok (.iand, 1) := by decide +kernel
theorem dX7_layTogether_86 : decode cX7_layTogether 86 = .ok (.iconst 1, 1) := by decide +kernel
theorem dX7_layTogether_87 : decode cX7_layTogether 87 = .ok (.if_icmp .ne 19, 3) := by decide +kernel
theorem dX7_layTogether_90 : decode cX7_layTogether 90 = .ok (.aload_n 0, 1) := by decide +kernel
theorem dX7_layTogether_91 : decode cX7_layTogether 91 = .ok (.iload 6, 2) := by decide +kernel
theorem dX7_layTogether_93 : decode cX7_layTogether 93 = .ok (.iload_n 1, 1) := by decide +kernel
theorem dX7_layTogether_94 : decode cX7_layTogether 94 = .ok (.iconst 0, 1) := by decide +kernel
theorem dX7_layTogether_95 : decode cX7_layTogether 95 = .ok (.invokevirtual 124, 3) := by decide +kernel
theorem dX7_layTogether_98 : decode cX7_layTogether 98 = .ok (.iload_n 3, 1) := by decide +kernel
theorem dX7_layTogether_99 : decode cX7_layTogether 99 = .ok (.if_icmp .ne 7, 3) := by decide +kernel
theorem dX7_layTogether_102 : decode cX7_layTogether 102 = .ok (.iconst 1, 1) := by decide +kernel
theorem dX7_layTogether_103 : decode cX7_layTogether 103 = .ok (.goto 4, 3) := by decide +kernel
theorem dX7_layTogether_106 : decode cX7_layTogether 106 = .ok (.iconst 0, 1) := by decide +kernel
theorem dX7_layTogether_107 : decode cX7_layTogether 107 = .ok (.istore 5, 2) := by decide +kernel
theorem dX7_layTogether_109 : decode cX7_layTogether 109 = .ok (.iinc 6 1, 3) := by decide +kernel
theorem dX7_layTogether_112 : decode cX7_layTogether 112 = .ok (.goto (-46), 3) := by decide +kernel
theorem dX7_layTogether_115 : decode cX7_layTogether 115 = .ok (.aload_n 0, 1) := by decide +kernel
theorem dX7_layTogether_116 : decode cX7_layTogether 116 = .ok (.dup, 1) := by decide +kernel
theorem dX7_layTogether_117 : decode cX7_layTogether 117 = .ok (.getfield 139, 3) := by decide +kernel
theorem dX7_layTogether_120 : decode cX7_layTogether 120 = .ok (.iconst 1, 1) := by decide +kernel
theorem dX7_layTogether_121 : decode cX7_layTogether 121 = .ok (.iload_n 2, 1) := by decide +kernel
theorem dX7_layTogether_122 : decode cX7_layTogether 122 = .ok (.ishl, 1) := by decide +kernel
theorem dX7_layTogether_123 : decode cX7_layTogether 123 = .ok (.ior, 1) := by decide +kernel
theorem dX7_layTogether_124 : decode cX7_layTogether 124 = .ok (.putfield 139, 3) := by decide +kernel
theorem dX7_layTogether_127 : decode cX7_layTogether 127 = .ok (.iload 4, 2) := by decide +kernel
theorem dX7_layTogether_129 : decode cX7_layTogether 129 = .ok (.aload_n 0, 1) := by decide +kernel
theorem dX7_layTogether_130 : decode cX7_layTogether 130 = .ok (.getfield 136, 3) := by decide +kernel
theorem dX7_layTogether_133 : decode cX7_layTogether 133 = .ok (.if_icmp .le 27, 3) := by decide +kernel
theorem dX7_layTogether_136 : decode cX7_layTogether 136 = .ok (.aload_n 0, 1) := by decide +kernel
theorem dX7_layTogether_137 : decode cX7_layTogether 137 = .ok (.iload 4, 2) := by decide +kernel
theorem dX7_layTogether_139 : decode cX7_layTogether 139 = .ok (.putfield 136, 3) := by decide +kernel
theorem dX7_layTogether_142 : decode cX7_layTogether 142 = .ok (.aload_n 0, 1) := by decide +kernel
theorem dX7_layTogether_143 : decode cX7_layTogether 143 = .ok (.iconst 1, 1) := by decide +kernel
theorem dX7_layTogether_144 : decode cX7_layTogether 144 = .ok (.putfield 127, 3) := by decide +kernel
theorem dX7_layTogether_147 : decode cX7_layTogether 147 = .ok (.aload_n 0, 1) := by decide +kernel
theorem dX7_layTogether_148 : decode cX7_layTogether 148 = .ok (.iload_n 3, 1) := by decide +kernel
theorem dX7_layTogether_149 : decode cX7_layTogether 149 = .ok (.putfield 130, 3) := by decide +kernel
theorem dX7_layTogether_152 : decode cX7_layTogether 152 = .ok (.aload_n 0, 1) := by decide +kernel
theorem dX7_layTogether_153 : decode cX7_layTogether 153 = .ok (.iload_n 3, 1) := by decide +kernel
theorem dX7_layTogether_154 : decode cX7_layTogether 154 = .ok (.putfield 133, 3) := by decide +kernel
theorem dX7_layTogether_157 : decode cX7_layTogether 157 = .ok (.goto 67, 3) := by decide +kernel
theorem dX7_layTogether_160 : decode cX7_layTogether 160 = .ok (.iload 4, 2) := by decide +kernel
theorem dX7_layTogether_162 : decode cX7_layTogether 162 = .ok (.aload_n 0, 1) := by decide +kernel
theorem dX7_layTogether_163 : decode cX7_layTogether 163 = .ok (.getfield 136, 3) := by decide +kernel
theorem dX7_layTogether_166 : decode cX7_layTogether 166 = .ok (.if_icmp .ne 58, 3) := by decide +kernel
theorem dX7_layTogether_169 : decode cX7_layTogether 169 = .ok (.iload 5, 2) := by decide +kernel
theorem dX7_layTogether_171 : decode cX7_layTogether 171 = .ok (.ifCond .ne 53, 3) := by decide +kernel
theorem dX7_layTogether_174 : decode cX7_layTogether 174 = .ok (.aload_n 0, 1) := by decide +kernel
theorem dX7_layTogether_175 : decode cX7_layTogether 175 = .ok (.dup, 1) := by decide +kernel
theorem dX7_layTogether_176 : decode cX7_layTogether 176 = .ok (.getfield 127, 3) := by decide +kernel
theorem dX7_layTogether_179 : decode cX7_layTogether 179 = .ok (.iconst 1, 1) := by decide +kernel
theorem dX7_layTogether_180 : decode cX7_layTogether 180 = .ok (.iadd, 1) := by decide +kernel
theorem dX7_layTogether_181 : decode cX7_layTogether 181 = .ok (.putfield 127, 3) := by decide +kernel
theorem dX7_layTogether_184 : decode cX7_layTogether 184 = .ok (.aload_n 0, 1) := by decide +kernel
theorem dX7_layTogether_185 : decode cX7_layTogether 185 = .ok (.iload_n 3, 1) := by decide +kernel
theorem dX7_layTogether_186 : decode cX7_layTogether 186 = .ok (.aload_n 0, 1) := by decide +kernel
theorem dX7_layTogether_187 : decode cX7_layTogether 187 = .ok (.getfield 130, 3) := by decide +kernel
theorem dX7_layTogether_190 : decode cX7_layTogether 190 = .ok (.if_icmp .ge 7, 3) := by decide +kernel
theorem dX7_layTogether_193 : decode cX7_layTogether 193 = .ok (.iload_n 3, 1) := by decide +kernel
theorem dX7_layTogether_194 : decode cX7_layTogether 194 = .ok (.goto 7, 3) := by decide +kernel
theorem dX7_layTogether_197 : decode cX7_layTogether 197 = .ok (.aload_n 0, 1) := by decide +kernel
theorem dX7_layTogether_198 : decode cX7_layTogether 198 = .ok (.getfield 130, 3) := by decide +kernel
theorem dX7_layTogether_201 : decode cX7_layTogether 201 = .ok (.putfield 130, 3) := by decide +kernel
theorem dX7_layTogether_204 : decode cX7_layTogether 204 = .ok (.aload_n 0, 1) := by decide +kernel
