theorem dX3_kindOf_0 : decode cX3_kindOf 0 = .ok (.aload_n 0, 1) := by decide +kernel
theorem dX3_kindOf_1 : decode cX3_kindOf 1 = .ok (.iload_n 1, 1) := by decide +kernel
theorem dX3_kindOf_2 : decode cX3_kindOf 2 = .ok (.iload_n 2, 1) := by decide +kernel
theorem dX3_kindOf_3 : decode cX3_kindOf 3 = .ok (.invokevirtual 55, 3) := by decide +kernel
theorem dX3_kindOf_6 : decode cX3_kindOf 6 = .ok (.istore 4, 2) := by decide +kernel
theorem dX3_kindOf_8 : decode cX3_kindOf 8 = .ok (.iload 4, 2) := by decide +kernel
theorem dX3_kindOf_10 : decode cX3_kindOf 10 = .ok (.ifCond .ge 5, 3) := by decide +kernel
theorem dX3_kindOf_13 : decode cX3_kindOf 13 = .ok (.iconst 0, 1) := by decide +kernel
theorem dX3_kindOf_14 : decode cX3_kindOf 14 = .ok (.ireturn, 1) := by decide +kernel
theorem dX3_kindOf_15 : decode cX3_kindOf 15 = .ok (.aload_n 0, 1) := by decide +kernel
theorem dX3_kindOf_16 : decode cX3_kindOf 16 = .ok (.iload_n 1, 1) := by decide +kernel
theorem dX3_kindOf_17 : decode cX3_kindOf 17 = .ok (.iload 4, 2) := by decide +kernel
theorem dX3_kindOf_19 : decode cX3_kindOf 19 = .ok (.invokevirtual 58, 3) := by decide +kernel
theorem dX3_kindOf_22 : decode cX3_kindOf 22 = .ok (.istore 5, 2) := by decide +kernel
theorem dX3_kindOf_24 : decode cX3_kindOf 24 = .ok (.aload_n 0, 1) := by decide +kernel
theorem dX3_kindOf_25 : decode cX3_kindOf 25 = .ok (.iload_n 1, 1) := by decide +kernel
theorem dX3_kindOf_26 : decode cX3_kindOf 26 = .ok (.iload 4, 2) := by decide +kernel
theorem dX3_kindOf_28 : decode cX3_kindOf 28 = .ok (.invokevirtual 42, 3) := by decide +kernel
theorem dX3_kindOf_31 : decode cX3_kindOf 31 = .ok (.iload_n 3, 1) := by decide +kernel
theorem dX3_kindOf_32 : decode cX3_kindOf 32 = .ok (.iadd, 1) := by decide +kernel
theorem dX3_kindOf_33 : decode cX3_kindOf 33 = .ok (.istore 6, 2) := by decide +kernel
theorem dX3_kindOf_35 : decode cX3_kindOf 35 = .ok (.iconst 0, 1) := by decide +kernel
theorem dX3_kindOf_36 : decode cX3_kindOf 36 = .ok (.istore 7, 2) := by decide +kernel
theorem dX3_kindOf_38 : decode cX3_kindOf 38 = .ok (.iload 7, 2) := by decide +kernel
theorem dX3_kindOf_40 : decode cX3_kindOf 40 = .ok (.iload 4, 2) := by decide +kernel
theorem dX3_kindOf_42 : decode cX3_kindOf 42 = .ok (.if_icmp .ge 46, 3) := by decide +kernel
theorem dX3_kindOf_45 : decode cX3_kindOf 45 = .ok (.aload_n 0, 1) := by decide +kernel
theorem dX3_kindOf_46 : decode cX3_kindOf 46 = .ok (.iload_n 1, 1) := by decide +kernel
theorem dX3_kindOf_47 : decode cX3_kindOf 47 = .ok (.iload 7, 2) := by decide +kernel
theorem dX3_kindOf_49 : decode cX3_kindOf 49 = .ok (.iload_n 2, 1) := by decide +kernel
theorem dX3_kindOf_50 : decode cX3_kindOf 50 = .ok (.invokevirtual 46, 3) := by decide +kernel
theorem dX3_kindOf_53 : decode cX3_kindOf 53 = .ok (.ifCond .eq 29, 3) := by decide +kernel
theorem dX3_kindOf_56 : decode cX3_kindOf 56 = .ok (.aload_n 0, 1) := by decide +kernel
theorem dX3_kindOf_57 : decode cX3_kindOf 57 = .ok (.iload_n 1, 1) := by decide +kernel
theorem dX3_kindOf_58 : decode cX3_kindOf 58 = .ok (.iload 7, 2) := by decide +kernel
theorem dX3_kindOf_60 : decode cX3_kindOf 60 = .ok (.invokevirtual 58, 3) := by decide +kernel
theorem dX3_kindOf_63 : decode cX3_kindOf 63 = .ok (.iload 5, 2) := by decide +kernel
theorem dX3_kindOf_65 : decode cX3_kindOf 65 = .ok (.if_icmp .eq 17, 3) := by decide +kernel
theorem dX3_kindOf_68 : decode cX3_kindOf 68 = .ok (.aload_n 0, 1) := by decide +kernel
theorem dX3_kindOf_69 : decode cX3_kindOf 69 = .ok (.iload_n 1, 1) := by decide +kernel
theorem dX3_kindOf_70 : decode cX3_kindOf 70 = .ok (.iload 7, 2) := by decide +kernel
theorem dX3_kindOf_72 : decode cX3_kindOf 72 = .ok (.invokevirtual 42, 3) := by decide +kernel
theorem dX3_kindOf_75 : decode cX3_kindOf 75 = .ok (.iload 6, 2) := by decide +kernel
theorem dX3_kindOf_77 : decode cX3_kindOf 77 = .ok (.if_icmp .le 5, 3) := by decide +kernel
theorem dX3_kindOf_80 : decode cX3_kindOf 80 = .ok (.iconst 2, 1) := by decide +kernel
theorem dX3_kindOf_81 : decode cX3_kindOf 81 = .ok (.ireturn, 1) := by decide +kernel
theorem dX3_kindOf_82 : decode cX3_kindOf 82 = .ok (.iinc 7 1, 3) := by decide +kernel
theorem dX3_kindOf_85 : decode cX3_kindOf 85 = .ok (.goto (-47), 3) := by decide +kernel
theorem dX3_kindOf_88 : decode cX3_kindOf 88 = .ok (.iconst 1, 1) := by decide +kernel
theorem dX3_kindOf_89 : decode cX3_kindOf 89 = .ok (.ireturn, 1) := by decide +kernel
theorem dX3_allMarks_0 : decode cX3_allMarks 0 = .ok (.iconst 0, 1) := by decide +kernel
theorem dX3_allMarks_1 : decode cX3_allMarks 1 = .ok (.istore_n 1, 1) := by decide +kernel
theorem dX3_allMarks_2 : decode cX3_allMarks 2 = .ok (.iconst 0, 1) := by decide +kernel
theorem dX3_allMarks_3 : decode cX3_allMarks 3 = .ok (.istore_n 2, 1) := by decide +kernel
theorem dX3_allMarks_4 : decode cX3_allMarks 4 = .ok (.iload_n 2, 1) := by decide +kernel
theorem dX3_allMarks_5 : decode cX3_allMarks 5 = .ok (.bipush 10, 2) := by decide +kernel
theorem dX3_allMarks_7 : decode cX3_allMarks 7 = .ok (.if_icmp .ge 18, 3) := by decide +kernel
theorem dX3_allMarks_10 : decode cX3_allMarks 10 = .ok (.iload_n 1, 1) := by decide +kernel
theorem dX3_allMarks_11 : decode cX3_allMarks 11 = .ok (.aload_n 0, 1) := by decide +kernel
theorem dX3_allMarks_12 : decode cX3_allMarks 12 = .ok (.getfield 21, 3) := by decide +kernel
theorem dX3_allMarks_15 : decode cX3_allMarks 15 = .ok (.iload_n 2, 1) := by decide +kernel
theorem dX3_allMarks_16 : decode cX3_allMarks 16 = .ok (.iaload, 1) := by decide +kernel
theorem dX3_allMarks_17 : decode cX3_allMarks 17 = .ok (.iadd, 1) := by decide +kernel
theorem dX3_allMarks_18 : decode cX3_allMarks 18 = .ok (.istore_n 1, 1) := by decide +kernel
theorem dX3_allMarks_19 : decode cX3_allMarks 19 = .ok (.iinc 2 1, 3) := by decide +kernel
theorem dX3_allMarks_22 : decode cX3_allMarks 22 = .ok (.goto (-18), 3) := by decide +kernel
theorem dX3_allMarks_25 : decode cX3_allMarks 25 = .ok (.iload_n 1, 1) := by decide +kernel
theorem dX3_allMarks_26 : decode cX3_allMarks 26 = .ok (.ireturn, 1) := by decide +kernel
theorem dX3_struckMarks_0 : decode cX3_struckMarks 0 = .ok (.iconst 0, 1) := by decide +kernel
theorem dX3_struckMarks_1 : decode cX3_struckMarks 1 = .ok (.istore_n 1, 1) := by decide +kernel
theorem dX3_struckMarks_2 : decode cX3_struckMarks 2 = .ok (.iconst 0, 1) := by decide +kernel
theorem dX3_struckMarks_3 : decode cX3_struckMarks 3 = .ok (.istore_n 2, 1) := by decide +kernel
theorem dX3_struckMarks_4 : decode cX3_struckMarks 4 = .ok (.iload_n 2, 1) := by decide +kernel
theorem dX3_struckMarks_5 : decode cX3_struckMarks 5 = .ok (.bipush 10, 2) := by decide +kernel
theorem dX3_struckMarks_7 : decode cX3_struckMarks 7 = .ok (.if_icmp .ge 39, 3) := by decide +kernel
theorem dX3_struckMarks_10 : decode cX3_struckMarks 10 = .ok (.iconst 0, 1) := by decide +kernel
theorem dX3_struckMarks_11 : decode cX3_struckMarks 11 = .ok (.istore_n 3, 1) := by decide +kernel
theorem dX3_struckMarks_12 : decode cX3_struckMarks 12 = .ok (.iload_n 3, 1) := by decide +kernel
theorem dX3_struckMarks_13 : decode cX3_struckMarks 13 = .ok (.aload_n 0, 1) := by decide +kernel
theorem dX3_struckMarks_14 : decode cX3_struckMarks 14 = .ok (.getfield 21, 3) := by decide +kernel
theorem dX3_struckMarks_17 : decode cX3_struckMarks 17 = .ok (.iload_n 2, 1) := by decide +kernel
theorem dX3_struckMarks_18 : decode cX3_struckMarks 18 = .ok (.iaload, 1) := by decide +kernel
theorem dX3_struckMarks_19 : decode cX3_struckMarks 19 = .ok (.if_icmp .ge 21, 3) := by decide +kernel
theorem dX3_struckMarks_22 : decode cX3_struckMarks 22 = .ok (.aload_n 0, 1) := by decide +kernel
theorem dX3_struckMarks_23 : decode cX3_struckMarks 23 = .ok (.iload_n 2, 1) := by decide +kernel
theorem dX3_struckMarks_24 : decode cX3_struckMarks 24 = .ok (.iload_n 3, 1) := by decide +kernel
theorem dX3_struckMarks_25 : decode cX3_struckMarks 25 = .ok (.invokevirtual 38, 3) := by decide +kernel
theorem dX3_struckMarks_28 : decode cX3_struckMarks 28 = .ok (.ifCond .eq 6, 3) := by decide +kernel
theorem dX3_struckMarks_31 : decode cX3_struckMarks 31 = .ok (.iinc 1 1, 3) := by decide +kernel
theorem dX3_struckMarks_34 : decode cX3_struckMarks 34 = .ok (.iinc 3 1, 3) := by decide +kernel
theorem dX3_struckMarks_37 : decode cX3_struckMarks 37 = .ok (.goto (-25), 3) := by decide +kernel
theorem dX3_struckMarks_40 : decode cX3_struckMarks 40 = .ok (.iinc 2 1, 3) := by decide +kernel
theorem dX3_struckMarks_43 : decode cX3_struckMarks 43 = .ok (.goto (-39), 3) := by decide +kernel
theorem dX3_struckMarks_46 : decode cX3_struckMarks 46 = .ok (.iload_n 1, 1) := by decide +kernel
theorem dX3_struckMarks_47 : decode cX3_struckMarks 47 = .ok (.ireturn, 1) := by decide +kernel
