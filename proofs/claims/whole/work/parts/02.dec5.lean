theorem dX6_init_0 : decode cX6_init 0 = .ok (.aload_n 0, 1) := by decide +kernel
theorem dX6_init_1 : decode cX6_init 1 = .ok (.invokespecial 1, 3) := by decide +kernel
theorem dX6_init_4 : decode cX6_init 4 = .ok (.aload_n 0, 1) := by decide +kernel
theorem dX6_init_5 : decode cX6_init 5 = .ok (.new 7, 3) := by decide +kernel
theorem dX6_init_8 : decode cX6_init 8 = .ok (.dup, 1) := by decide +kernel
theorem dX6_init_9 : decode cX6_init 9 = .ok (.invokespecial 9, 3) := by decide +kernel
theorem dX6_init_12 : decode cX6_init 12 = .ok (.putfield 10, 3) := by decide +kernel
theorem dX6_init_15 : decode cX6_init 15 = .ok (.aload_n 0, 1) := by decide +kernel
theorem dX6_init_16 : decode cX6_init 16 = .ok (.new 7, 3) := by decide +kernel
theorem dX6_init_19 : decode cX6_init 19 = .ok (.dup, 1) := by decide +kernel
theorem dX6_init_20 : decode cX6_init 20 = .ok (.invokespecial 9, 3) := by decide +kernel
theorem dX6_init_23 : decode cX6_init 23 = .ok (.putfield 16, 3) := by decide +kernel
theorem dX6_init_26 : decode cX6_init 26 = .ok (.aload_n 0, 1) := by decide +kernel
theorem dX6_init_27 : decode cX6_init 27 = .ok (.new 19, 3) := by decide +kernel
theorem dX6_init_30 : decode cX6_init 30 = .ok (.dup, 1) := by decide +kernel
theorem dX6_init_31 : decode cX6_init 31 = .ok (.invokespecial 21, 3) := by decide +kernel
theorem dX6_init_34 : decode cX6_init 34 = .ok (.putfield 22, 3) := by decide +kernel
theorem dX6_init_37 : decode cX6_init 37 = .ok (.aload_n 0, 1) := by decide +kernel
theorem dX6_init_38 : decode cX6_init 38 = .ok (.new 26, 3) := by decide +kernel
theorem dX6_init_41 : decode cX6_init 41 = .ok (.dup, 1) := by decide +kernel
theorem dX6_init_42 : decode cX6_init 42 = .ok (.invokespecial 28, 3) := by decide +kernel
theorem dX6_init_45 : decode cX6_init 45 = .ok (.putfield 29, 3) := by decide +kernel
theorem dX6_init_48 : decode cX6_init 48 = .ok (.aload_n 0, 1) := by decide +kernel
theorem dX6_init_49 : decode cX6_init 49 = .ok (.iconst 2, 1) := by decide +kernel
theorem dX6_init_50 : decode cX6_init 50 = .ok (.anewarray 7, 3) := by decide +kernel
theorem dX6_init_53 : decode cX6_init 53 = .ok (.putfield 33, 3) := by decide +kernel
theorem dX6_init_56 : decode cX6_init 56 = .ok (.aload_n 0, 1) := by decide +kernel
theorem dX6_init_57 : decode cX6_init 57 = .ok (.iconst 2, 1) := by decide +kernel
theorem dX6_init_58 : decode cX6_init 58 = .ok (.newarray .boolean, 2) := by decide +kernel
theorem dX6_init_60 : decode cX6_init 60 = .ok (.putfield 37, 3) := by decide +kernel
theorem dX6_init_63 : decode cX6_init 63 = .ok (.aload_n 0, 1) := by decide +kernel
theorem dX6_init_64 : decode cX6_init 64 = .ok (.new 41, 3) := by decide +kernel
theorem dX6_init_67 : decode cX6_init 67 = .ok (.dup, 1) := by decide +kernel
theorem dX6_init_68 : decode cX6_init 68 = .ok (.invokespecial 43, 3) := by decide +kernel
theorem dX6_init_71 : decode cX6_init 71 = .ok (.putfield 44, 3) := by decide +kernel
theorem dX6_init_74 : decode cX6_init 74 = .ok (.aload_n 0, 1) := by decide +kernel
theorem dX6_init_75 : decode cX6_init 75 = .ok (.new 48, 3) := by decide +kernel
theorem dX6_init_78 : decode cX6_init 78 = .ok (.dup, 1) := by decide +kernel
theorem dX6_init_79 : decode cX6_init 79 = .ok (.invokespecial 50, 3) := by decide +kernel
theorem dX6_init_82 : decode cX6_init 82 = .ok (.putfield 51, 3) := by decide +kernel
theorem dX6_init_85 : decode cX6_init 85 = .ok (.iconst 0, 1) := by decide +kernel
theorem dX6_init_86 : decode cX6_init 86 = .ok (.istore_n 1, 1) := by decide +kernel
theorem dX6_init_87 : decode cX6_init 87 = .ok (.iload_n 1, 1) := by decide +kernel
theorem dX6_init_88 : decode cX6_init 88 = .ok (.iconst 2, 1) := by decide +kernel
theorem dX6_init_89 : decode cX6_init 89 = .ok (.if_icmp .ge 22, 3) := by decide +kernel
theorem dX6_init_92 : decode cX6_init 92 = .ok (.aload_n 0, 1) := by decide +kernel
theorem dX6_init_93 : decode cX6_init 93 = .ok (.getfield 33, 3) := by decide +kernel
theorem dX6_init_96 : decode cX6_init 96 = .ok (.iload_n 1, 1) := by decide +kernel
theorem dX6_init_97 : decode cX6_init 97 = .ok (.new 7, 3) := by decide +kernel
theorem dX6_init_100 : decode cX6_init 100 = .ok (.dup, 1) := by decide +kernel
theorem dX6_init_101 : decode cX6_init 101 = .ok (.invokespecial 9, 3) := by decide +kernel
theorem dX6_init_104 : decode cX6_init 104 = .ok (.aastore, 1) := by decide +kernel
theorem dX6_init_105 : decode cX6_init 105 = .ok (.iinc 1 1, 3) := by decide +kernel
theorem dX6_init_108 : decode cX6_init 108 = .ok (.goto (-21), 3) := by decide +kernel
theorem dX6_init_111 : decode cX6_init 111 = .ok (.return_, 1) := by decide +kernel
theorem dX6_set_0 : decode cX6_set 0 = .ok (.iload_n 1, 1) := by decide +kernel
theorem dX6_set_1 : decode cX6_set 1 = .ok (.iload_n 2, 1) := by decide +kernel
theorem dX6_set_2 : decode cX6_set 2 = .ok (.invokestatic 55, 3) := by decide +kernel
theorem dX6_set_5 : decode cX6_set 5 = .ok (.ifCond .ne 6, 3) := by decide +kernel
theorem dX6_set_8 : decode cX6_set 8 = .ok (.bipush (-2), 2) := by decide +kernel
theorem dX6_set_10 : decode cX6_set 10 = .ok (.ireturn, 1) := by decide +kernel
theorem dX6_set_11 : decode cX6_set 11 = .ok (.aload_n 0, 1) := by decide +kernel
theorem dX6_set_12 : decode cX6_set 12 = .ok (.getfield 29, 3) := by decide +kernel
theorem dX6_set_15 : decode cX6_set 15 = .ok (.aload_n 0, 1) := by decide +kernel
theorem dX6_set_16 : decode cX6_set 16 = .ok (.getfield 10, 3) := by decide +kernel
theorem dX6_set_19 : decode cX6_set 19 = .ok (.invokevirtual 59, 3) := by decide +kernel
theorem dX6_set_22 : decode cX6_set 22 = .ok (.aload_n 0, 1) := by decide +kernel
theorem dX6_set_23 : decode cX6_set 23 = .ok (.getfield 10, 3) := by decide +kernel
theorem dX6_set_26 : decode cX6_set 26 = .ok (.getfield 63, 3) := by decide +kernel
theorem dX6_set_29 : decode cX6_set 29 = .ok (.iload_n 1, 1) := by decide +kernel
theorem dX6_set_30 : decode cX6_set 30 = .ok (.iaload, 1) := by decide +kernel
theorem dX6_set_31 : decode cX6_set 31 = .ok (.istore_n 3, 1) := by decide +kernel
theorem dX6_set_32 : decode cX6_set 32 = .ok (.aload_n 0, 1) := by decide +kernel
theorem dX6_set_33 : decode cX6_set 33 = .ok (.getfield 10, 3) := by decide +kernel
theorem dX6_set_36 : decode cX6_set 36 = .ok (.getfield 63, 3) := by decide +kernel
theorem dX6_set_39 : decode cX6_set 39 = .ok (.iload_n 1, 1) := by decide +kernel
theorem dX6_set_40 : decode cX6_set 40 = .ok (.iload_n 2, 1) := by decide +kernel
theorem dX6_set_41 : decode cX6_set 41 = .ok (.iastore, 1) := by decide +kernel
theorem dX6_set_42 : decode cX6_set 42 = .ok (.iload_n 3, 1) := by decide +kernel
theorem dX6_set_43 : decode cX6_set 43 = .ok (.ireturn, 1) := by decide +kernel
theorem dX6_thickness_0 : decode cX6_thickness 0 = .ok (.iload_n 1, 1) := by decide +kernel
theorem dX6_thickness_1 : decode cX6_thickness 1 = .ok (.invokestatic 67, 3) := by decide +kernel
theorem dX6_thickness_4 : decode cX6_thickness 4 = .ok (.ifCond .ne 5, 3) := by decide +kernel
theorem dX6_thickness_7 : decode cX6_thickness 7 = .ok (.iconst (-1), 1) := by decide +kernel
theorem dX6_thickness_8 : decode cX6_thickness 8 = .ok (.ireturn, 1) := by decide +kernel
theorem dX6_thickness_9 : decode cX6_thickness 9 = .ok (.iload_n 2, 1) := by decide +kernel
theorem dX6_thickness_10 : decode cX6_thickness 10 = .ok (.iconst 0, 1) := by decide +kernel
theorem dX6_thickness_11 : decode cX6_thickness 11 = .ok (.iconst 4, 1) := by decide +kernel
theorem dX6_thickness_12 : decode cX6_thickness 12 = .ok (.invokestatic 71, 3) := by decide +kernel
theorem dX6_thickness_15 : decode cX6_thickness 15 = .ok (.ifCond .ne 6, 3) := by decide +kernel
theorem dX6_thickness_18 : decode cX6_thickness 18 = .ok (.bipush (-2), 2) := by decide +kernel
theorem dX6_thickness_20 : decode cX6_thickness 20 = .ok (.ireturn, 1) := by decide +kernel
theorem dX6_thickness_21 : decode cX6_thickness 21 = .ok (.aload_n 0, 1) := by decide +kernel
theorem dX6_thickness_22 : decode cX6_thickness 22 = .ok (.getfield 29, 3) := by decide +kernel
theorem dX6_thickness_25 : decode cX6_thickness 25 = .ok (.aload_n 0, 1) := by decide +kernel
theorem dX6_thickness_26 : decode cX6_thickness 26 = .ok (.getfield 10, 3) := by decide +kernel
theorem dX6_thickness_29 : decode cX6_thickness 29 = .ok (.invokevirtual 59, 3) := by decide +kernel
theorem dX6_thickness_32 : decode cX6_thickness 32 = .ok (.aload_n 0, 1) := by decide +kernel
theorem dX6_thickness_33 : decode cX6_thickness 33 = .ok (.getfield 10, 3) := by decide +kernel
theorem dX6_thickness_36 : decode cX6_thickness 36 = .ok (.getfield 75, 3) := by decide +kernel
theorem dX6_thickness_39 : decode cX6_thickness 39 = .ok (.iload_n 1, 1) := by decide +kernel
theorem dX6_thickness_40 : decode cX6_thickness 40 = .ok (.aaload, 1) := by decide +kernel
theorem dX6_thickness_41 : decode cX6_thickness 41 = .ok (.getfield 79, 3) := by decide +kernel
theorem dX6_thickness_44 : decode cX6_thickness 44 = .ok (.istore_n 3, 1) := by decide +kernel
theorem dX6_thickness_45 : decode cX6_thickness 45 = .ok (.aload_n 0, 1) := by decide +kernel
theorem dX6_thickness_46 : decode cX6_thickness 46 = .ok (.getfield 10, 3) := by decide +kernel
theorem dX6_thickness_49 : decode cX6_thickness 49 = .ok (.getfield 75, 3) := by decide +kernel
theorem dX6_thickness_52 : decode cX6_thickness 52 = .ok (.iload_n 1, 1) := by decide +kernel
theorem dX6_thickness_53 : decode cX6_thickness 53 = .ok (.aaload, 1) := by decide +kernel
theorem dX6_thickness_54 : decode cX6_thickness 54 = .ok (.iload_n 2, 1) := by decide +kernel
theorem dX6_thickness_55 : decode cX6_thickness 55 = .ok (.putfield 79, 3) := by decide +kernel
theorem dX6_thickness_58 : decode cX6_thickness 58 = .ok (.iload_n 3, 1) := by decide +kernel
theorem dX6_thickness_59 : decode cX6_thickness 59 = .ok (.ireturn, 1) := by decide +kernel
theorem dX6_carbon_0 : decode cX6_carbon 0 = .ok (.iload_n 1, 1) := by decide +kernel
theorem dX6_carbon_1 : decode cX6_carbon 1 = .ok (.invokestatic 67, 3) := by decide +kernel
theorem dX6_carbon_4 : decode cX6_carbon 4 = .ok (.ifCond .ne 5, 3) := by decide +kernel
theorem dX6_carbon_7 : decode cX6_carbon 7 = .ok (.iconst (-1), 1) := by decide +kernel
theorem dX6_carbon_8 : decode cX6_carbon 8 = .ok (.ireturn, 1) := by decide +kernel
theorem dX6_carbon_9 : decode cX6_carbon 9 = .ok (.iload_n 2, 1) := by decide +kernel
theorem dX6_carbon_10 : decode cX6_carbon 10 = .ok (.iconst 0, 1) := by decide +kernel
theorem dX6_carbon_11 : decode cX6_carbon 11 = .ok (.sipush 300, 3) := by decide +kernel
theorem dX6_carbon_14 : decode cX6_carbon 14 = .ok (.invokestatic 71, 3) := by decide +kernel
theorem dX6_carbon_17 : decode cX6_carbon 17 = .ok (.ifCond .ne 6, 3) := by decide +kernel
theorem dX6_carbon_20 : decode cX6_carbon 20 = .ok (.bipush (-2), 2) := by decide +kernel
theorem dX6_carbon_22 : decode cX6_carbon 22 = .ok (.ireturn, 1) := by decide +kernel
theorem dX6_carbon_23 : decode cX6_carbon 23 = .ok (.aload_n 0, 1) := by decide +kernel
theorem dX6_carbon_24 : decode cX6_carbon 24 = .ok (.getfield 10, 3) := by decide +kernel
theorem dX6_carbon_27 : decode cX6_carbon 27 = .ok (.iload_n 1, 1) := by decide +kernel
theorem dX6_carbon_28 : decode cX6_carbon 28 = .ok (.invokevirtual 85, 3) := by decide +kernel
theorem dX6_carbon_31 : decode cX6_carbon 31 = .ok (.ifCond .ne 6, 3) := by decide +kernel
theorem dX6_carbon_34 : decode cX6_carbon 34 = .ok (.bipush (-5), 2) := by decide +kernel
theorem dX6_carbon_36 : decode cX6_carbon 36 = .ok (.ireturn, 1) := by decide +kernel
theorem dX6_carbon_37 : decode cX6_carbon 37 = .ok (.aload_n 0, 1) := by decide +kernel
theorem dX6_carbon_38 : decode cX6_carbon 38 = .ok (.getfield 29, 3) := by decide +kernel
theorem dX6_carbon_41 : decode cX6_carbon 41 = .ok (.aload_n 0, 1) := by decide +kernel
theorem dX6_carbon_42 : decode cX6_carbon 42 = .ok (.getfield 10, 3) := by decide +kernel
theorem dX6_carbon_45 : decode cX6_carbon 45 = .ok (.invokevirtual 59, 3) := by decide +kernel
theorem dX6_carbon_48 : decode cX6_carbon 48 = .ok (.aload_n 0, 1) := by decide +kernel
theorem dX6_carbon_49 : decode cX6_carbon 49 = .ok (.getfield 10, 3) := by decide +kernel
theorem dX6_carbon_52 : decode cX6_carbon 52 = .ok (.getfield 75, 3) := by decide +kernel
theorem dX6_carbon_55 : decode cX6_carbon 55 = .ok (.iload_n 1, 1) := by decide +kernel
theorem dX6_carbon_56 : decode cX6_carbon 56 = .ok (.aaload, 1) := by decide +kernel
theorem dX6_carbon_57 : decode cX6_carbon 57 = .ok (.getfield 88, 3) := by decide +kernel
theorem dX6_carbon_60 : decode cX6_carbon 60 = .ok (.istore_n 3, 1) := by decide +kernel
theorem dX6_carbon_61 : decode cX6_carbon 61 = .ok (.aload_n 0, 1) := by decide +kernel
theorem dX6_carbon_62 : decode cX6_carbon 62 = .ok (.getfield 10, 3) := by decide +kernel
theorem dX6_carbon_65 : decode cX6_carbon 65 = .ok (.getfield 75, 3) := by decide +kernel
theorem dX6_carbon_68 : decode cX6_carbon 68 = .ok (.iload_n 1, 1) := by decide +kernel
theorem dX6_carbon_69 : decode cX6_carbon 69 = .ok (.aaload, 1) := by decide +kernel
theorem dX6_carbon_70 : decode cX6_carbon 70 = .ok (.iload_n 2, 1) := by decide +kernel
theorem dX6_carbon_71 : decode cX6_carbon 71 = .ok (.putfield 88, 3) := by decide +kernel
theorem dX6_carbon_74 : decode cX6_carbon 74 = .ok (.iload_n 3, 1) := by decide +kernel
theorem dX6_carbon_75 : decode cX6_carbon 75 = .ok (.ireturn, 1) := by decide +kernel
theorem dX6_write_0 : decode cX6_write 0 = .ok (.aload_n 0, 1) := by decide +kernel
theorem dX6_write_1 : decode cX6_write 1 = .ok (.getfield 10, 3) := by decide +kernel
theorem dX6_write_4 : decode cX6_write 4 = .ok (.iload_n 1, 1) := by decide +kernel
theorem dX6_write_5 : decode cX6_write 5 = .ok (.iload_n 2, 1) := by decide +kernel
theorem dX6_write_6 : decode cX6_write 6 = .ok (.iload_n 3, 1) := by decide +kernel
theorem dX6_write_7 : decode cX6_write 7 = .ok (.invokevirtual 91, 3) := by decide +kernel
theorem dX6_write_10 : decode cX6_write 10 = .ok (.istore 4, 2) := by decide +kernel
theorem dX6_write_12 : decode cX6_write 12 = .ok (.iload 4, 2) := by decide +kernel
theorem dX6_write_14 : decode cX6_write 14 = .ok (.ifCond .eq 6, 3) := by decide +kernel
theorem dX6_write_17 : decode cX6_write 17 = .ok (.iload 4, 2) := by decide +kernel
theorem dX6_write_19 : decode cX6_write 19 = .ok (.ireturn, 1) := by decide +kernel
theorem dX6_write_20 : decode cX6_write 20 = .ok (.aload_n 0, 1) := by decide +kernel
theorem dX6_write_21 : decode cX6_write 21 = .ok (.getfield 29, 3) := by decide +kernel
theorem dX6_write_24 : decode cX6_write 24 = .ok (.aload_n 0, 1) := by decide +kernel
theorem dX6_write_25 : decode cX6_write 25 = .ok (.getfield 10, 3) := by decide +kernel
theorem dX6_write_28 : decode cX6_write 28 = .ok (.invokevirtual 59, 3) := by decide +kernel
theorem dX6_write_31 : decode cX6_write 31 = .ok (.aload_n 0, 1) := by decide +kernel
theorem dX6_write_32 : decode cX6_write 32 = .ok (.getfield 10, 3) := by decide +kernel
theorem dX6_write_35 : decode cX6_write 35 = .ok (.iload_n 1, 1) := by decide +kernel
theorem dX6_write_36 : decode cX6_write 36 = .ok (.iload_n 2, 1) := by decide +kernel
theorem dX6_write_37 : decode cX6_write 37 = .ok (.iload_n 3, 1) := by decide +kernel
theorem dX6_write_38 : decode cX6_write 38 = .ok (.invokevirtual 95, 3) := by decide +kernel
theorem dX6_write_41 : decode cX6_write 41 = .ok (.ireturn, 1) := by decide +kernel
theorem dX6_strike_0 : decode cX6_strike 0 = .ok (.aload_n 0, 1) := by decide +kernel
theorem dX6_strike_1 : decode cX6_strike 1 = .ok (.getfield 10, 3) := by decide +kernel
theorem dX6_strike_4 : decode cX6_strike 4 = .ok (.iload_n 1, 1) := by decide +kernel
theorem dX6_strike_5 : decode cX6_strike 5 = .ok (.iload_n 2, 1) := by decide +kernel
theorem dX6_strike_6 : decode cX6_strike 6 = .ok (.invokevirtual 98, 3) := by decide +kernel
theorem dX6_strike_9 : decode cX6_strike 9 = .ok (.istore_n 3, 1) := by decide +kernel
theorem dX6_strike_10 : decode cX6_strike 10 = .ok (.iload_n 3, 1) := by decide +kernel
theorem dX6_strike_11 : decode cX6_strike 11 = .ok (.ifCond .eq 5, 3) := by decide +kernel
theorem dX6_strike_14 : decode cX6_strike 14 = .ok (.iload_n 3, 1) := by decide +kernel
theorem dX6_strike_15 : decode cX6_strike 15 = .ok (.ireturn, 1) := by decide +kernel
theorem dX6_strike_16 : decode cX6_strike 16 = .ok (.aload_n 0, 1) := by decide +kernel
theorem dX6_strike_17 : decode cX6_strike 17 = .ok (.getfield 29, 3) := by decide +kernel
theorem dX6_strike_20 : decode cX6_strike 20 = .ok (.aload_n 0, 1) := by decide +kernel
theorem dX6_strike_21 : decode cX6_strike 21 = .ok (.getfield 10, 3) := by decide +kernel
theorem dX6_strike_24 : decode cX6_strike 24 = .ok (.invokevirtual 59, 3) := by decide +kernel
theorem dX6_strike_27 : decode cX6_strike 27 = .ok (.aload_n 0, 1) := by decide +kernel
theorem dX6_strike_28 : decode cX6_strike 28 = .ok (.getfield 10, 3) := by decide +kernel
theorem dX6_strike_31 : decode cX6_strike 31 = .ok (.iload_n 1, 1) := by decide +kernel
theorem dX6_strike_32 : decode cX6_strike 32 = .ok (.iload_n 2, 1) := by decide +kernel
theorem dX6_strike_33 : decode cX6_strike 33 = .ok (.invokevirtual 102, 3) := by decide +kernel
theorem dX6_strike_36 : decode cX6_strike 36 = .ok (.ireturn, 1) := by decide +kernel
theorem dX6_paint_0 : decode cX6_paint 0 = .ok (.iload_n 1, 1) := by decide +kernel
theorem dX6_paint_1 : decode cX6_paint 1 = .ok (.invokestatic 67, 3) := by decide +kernel
theorem dX6_paint_4 : decode cX6_paint 4 = .ok (.ifCond .eq 10, 3) := by decide +kernel
theorem dX6_paint_7 : decode cX6_paint 7 = .ok (.iload_n 2, 1) := by decide +kernel
theorem dX6_paint_8 : decode cX6_paint 8 = .ok (.invokestatic 105, 3) := by decide +kernel
theorem dX6_paint_11 : decode cX6_paint 11 = .ok (.ifCond .ne 5, 3) := by decide +kernel
theorem dX6_paint_14 : decode cX6_paint 14 = .ok (.iconst (-1), 1) := by decide +kernel
theorem dX6_paint_15 : decode cX6_paint 15 = .ok (.ireturn, 1) := by decide +kernel
theorem dX6_paint_16 : decode cX6_paint 16 = .ok (.aload_n 0, 1) := by decide +kernel
theorem dX6_paint_17 : decode cX6_paint 17 = .ok (.getfield 10, 3) := by decide +kernel
theorem dX6_paint_20 : decode cX6_paint 20 = .ok (.iload_n 1, 1) := by decide +kernel
theorem dX6_paint_21 : decode cX6_paint 21 = .ok (.invokevirtual 85, 3) := by decide +kernel
theorem dX6_paint_24 : decode cX6_paint 24 = .ok (.ifCond .eq 17, 3) := by decide +kernel
theorem dX6_paint_27 : decode cX6_paint 27 = .ok (.iload_n 1, 1) := by decide +kernel
theorem dX6_paint_28 : decode cX6_paint 28 = .ok (.aload_n 0, 1) := by decide +kernel
theorem dX6_paint_29 : decode cX6_paint 29 = .ok (.getfield 10, 3) := by decide +kernel
theorem dX6_paint_32 : decode cX6_paint 32 = .ok (.getfield 108, 3) := by decide +kernel
theorem dX6_paint_35 : decode cX6_paint 35 = .ok (.if_icmp .eq 6, 3) := by decide +kernel
theorem dX6_paint_38 : decode cX6_paint 38 = .ok (.bipush (-5), 2) := by decide +kernel
theorem dX6_paint_40 : decode cX6_paint 40 = .ok (.ireturn, 1) := by decide +kernel
theorem dX6_paint_41 : decode cX6_paint 41 = .ok (.aload_n 0, 1) := by decide +kernel
theorem dX6_paint_42 : decode cX6_paint 42 = .ok (.getfield 29, 3) := by decide +kernel
theorem dX6_paint_45 : decode cX6_paint 45 = .ok (.aload_n 0, 1) := by decide +kernel
theorem dX6_paint_46 : decode cX6_paint 46 = .ok (.getfield 10, 3) := by decide +kernel
theorem dX6_paint_49 : decode cX6_paint 49 = .ok (.invokevirtual 59, 3) := by decide +kernel
theorem dX6_paint_52 : decode cX6_paint 52 = .ok (.aload_n 0, 1) := by decide +kernel
theorem dX6_paint_53 : decode cX6_paint 53 = .ok (.getfield 10, 3) := by decide +kernel
theorem dX6_paint_56 : decode cX6_paint 56 = .ok (.iload_n 1, 1) := by decide +kernel
theorem dX6_paint_57 : decode cX6_paint 57 = .ok (.iload_n 2, 1) := by decide +kernel
theorem dX6_paint_58 : decode cX6_paint 58 = .ok (.invokevirtual 111, 3) := by decide +kernel
theorem dX6_paint_61 : decode cX6_paint 61 = .ok (.aload_n 0, 1) := by decide +kernel
theorem dX6_paint_62 : decode cX6_paint 62 = .ok (.getfield 10, 3) := by decide +kernel
theorem dX6_paint_65 : decode cX6_paint 65 = .ok (.getfield 75, 3) := by decide +kernel
theorem dX6_paint_68 : decode cX6_paint 68 = .ok (.iload_n 1, 1) := by decide +kernel
theorem dX6_paint_69 : decode cX6_paint 69 = .ok (.aaload, 1) := by decide +kernel
theorem dX6_paint_70 : decode cX6_paint 70 = .ok (.iload_n 2, 1) := by decide +kernel
theorem dX6_paint_71 : decode cX6_paint 71 = .ok (.bipush 9, 2) := by decide +kernel
theorem dX6_paint_73 : decode cX6_paint 73 = .ok (.invokevirtual 115, 3) := by decide +kernel
theorem dX6_paint_76 : decode cX6_paint 76 = .ok (.ireturn, 1) := by decide +kernel
theorem dX6_amend_0 : decode cX6_amend 0 = .ok (.iload_n 1, 1) := by decide +kernel
theorem dX6_amend_1 : decode cX6_amend 1 = .ok (.invokestatic 67, 3) := by decide +kernel
theorem dX6_amend_4 : decode cX6_amend 4 = .ok (.ifCond .eq 10, 3) := by decide +kernel
theorem dX6_amend_7 : decode cX6_amend 7 = .ok (.iload_n 2, 1) := by decide +kernel
theorem dX6_amend_8 : decode cX6_amend 8 = .ok (.invokestatic 105, 3) := by decide +kernel
theorem dX6_amend_11 : decode cX6_amend 11 = .ok (.ifCond .ne 5, 3) := by decide +kernel
theorem dX6_amend_14 : decode cX6_amend 14 = .ok (.iconst (-1), 1) := by decide +kernel
theorem dX6_amend_15 : decode cX6_amend 15 = .ok (.ireturn, 1) := by decide +kernel
theorem dX6_amend_16 : decode cX6_amend 16 = .ok (.iload_n 3, 1) := by decide +kernel
theorem dX6_amend_17 : decode cX6_amend 17 = .ok (.invokestatic 118, 3) := by decide +kernel
theorem dX6_amend_20 : decode cX6_amend 20 = .ok (.ifCond .eq 11, 3) := by decide +kernel
theorem dX6_amend_23 : decode cX6_amend 23 = .ok (.iload 4, 2) := by decide +kernel
theorem dX6_amend_25 : decode cX6_amend 25 = .ok (.invokestatic 121, 3) := by decide +kernel
theorem dX6_amend_28 : decode cX6_amend 28 = .ok (.ifCond .ne 6, 3) := by decide +kernel
theorem dX6_amend_31 : decode cX6_amend 31 = .ok (.bipush (-2), 2) := by decide +kernel
theorem dX6_amend_33 : decode cX6_amend 33 = .ok (.ireturn, 1) := by decide +kernel
theorem dX6_amend_34 : decode cX6_amend 34 = .ok (.aload_n 0, 1) := by decide +kernel
theorem dX6_amend_35 : decode cX6_amend 35 = .ok (.getfield 10, 3) := by decide +kernel
theorem dX6_amend_38 : decode cX6_amend 38 = .ok (.iload_n 1, 1) := by decide +kernel
theorem dX6_amend_39 : decode cX6_amend 39 = .ok (.invokevirtual 85, 3) := by decide +kernel
theorem dX6_amend_42 : decode cX6_amend 42 = .ok (.ifCond .eq 6, 3) := by decide +kernel
theorem dX6_amend_45 : decode cX6_amend 45 = .ok (.bipush (-5), 2) := by decide +kernel
theorem dX6_amend_47 : decode cX6_amend 47 = .ok (.ireturn, 1) := by decide +kernel
theorem dX6_amend_48 : decode cX6_amend 48 = .ok (.aload_n 0, 1) := by decide +kernel
theorem dX6_amend_49 : decode cX6_amend 49 = .ok (.getfield 10, 3) := by decide +kernel
theorem dX6_amend_52 : decode cX6_amend 52 = .ok (.getfield 75, 3) := by decide +kernel
theorem dX6_amend_55 : decode cX6_amend 55 = .ok (.iload_n 1, 1) := by decide +kernel
theorem dX6_amend_56 : decode cX6_amend 56 = .ok (.aaload, 1) := by decide +kernel
theorem dX6_amend_57 : decode cX6_amend 57 = .ok (.iload_n 2, 1) := by decide +kernel
theorem dX6_amend_58 : decode cX6_amend 58 = .ok (.invokevirtual 124, 3) := by decide +kernel
theorem dX6_amend_61 : decode cX6_amend 61 = .ok (.ifCond .ne 6, 3) := by decide +kernel
theorem dX6_amend_64 : decode cX6_amend 64 = .ok (.bipush (-4), 2) := by decide +kernel
theorem dX6_amend_66 : decode cX6_amend 66 = .ok (.ireturn, 1) := by decide +kernel
theorem dX6_amend_67 : decode cX6_amend 67 = .ok (.aload_n 0, 1) := by decide +kernel
theorem dX6_amend_68 : decode cX6_amend 68 = .ok (.getfield 29, 3) := by decide +kernel
theorem dX6_amend_71 : decode cX6_amend 71 = .ok (.aload_n 0, 1) := by decide +kernel
theorem dX6_amend_72 : decode cX6_amend 72 = .ok (.getfield 10, 3) := by decide +kernel
theorem dX6_amend_75 : decode cX6_amend 75 = .ok (.invokevirtual 59, 3) := by decide +kernel
theorem dX6_amend_78 : decode cX6_amend 78 = .ok (.aload_n 0, 1) := by decide +kernel
theorem dX6_amend_79 : decode cX6_amend 79 = .ok (.getfield 10, 3) := by decide +kernel
theorem dX6_amend_82 : decode cX6_amend 82 = .ok (.iload_n 1, 1) := by decide +kernel
theorem dX6_amend_83 : decode cX6_amend 83 = .ok (.iload_n 2, 1) := by decide +kernel
theorem dX6_amend_84 : decode cX6_amend 84 = .ok (.invokevirtual 111, 3) := by decide +kernel
theorem dX6_amend_87 : decode cX6_amend 87 = .ok (.aload_n 0, 1) := by decide +kernel
theorem dX6_amend_88 : decode cX6_amend 88 = .ok (.getfield 10, 3) := by decide +kernel
theorem dX6_amend_91 : decode cX6_amend 91 = .ok (.getfield 75, 3) := by decide +kernel
theorem dX6_amend_94 : decode cX6_amend 94 = .ok (.iload_n 1, 1) := by decide +kernel
theorem dX6_amend_95 : decode cX6_amend 95 = .ok (.aaload, 1) := by decide +kernel
theorem dX6_amend_96 : decode cX6_amend 96 = .ok (.iload_n 2, 1) := by decide +kernel
theorem dX6_amend_97 : decode cX6_amend 97 = .ok (.iload_n 3, 1) := by decide +kernel
theorem dX6_amend_98 : decode cX6_amend 98 = .ok (.iload 4, 2) := by decide +kernel
theorem dX6_amend_100 : decode cX6_amend 100 = .ok (.invokevirtual 127, 3) := by decide +kernel
theorem dX6_amend_103 : decode cX6_amend 103 = .ok (.aload_n 0, 1) := by decide +kernel
theorem dX6_amend_104 : decode cX6_amend 104 = .ok (.getfield 10, 3) := by decide +kernel
theorem dX6_amend_107 : decode cX6_amend 107 = .ok (.getfield 75, 3) := by decide +kernel
theorem dX6_amend_110 : decode cX6_amend 110 = .ok (.iload_n 1, 1) := by decide +kernel
theorem dX6_amend_111 : decode cX6_amend 111 = .ok (.aaload, 1) := by decide +kernel
theorem dX6_amend_112 : decode cX6_amend 112 = .ok (.getfield 131, 3) := by decide +kernel
theorem dX6_amend_115 : decode cX6_amend 115 = .ok (.iload_n 2, 1) := by decide +kernel
theorem dX6_amend_116 : decode cX6_amend 116 = .ok (.iaload, 1) := by decide +kernel
theorem dX6_amend_117 : decode cX6_amend 117 = .ok (.ireturn, 1) := by decide +kernel
theorem dX6_tear_0 : decode cX6_tear 0 = .ok (.aload_n 0, 1) := by decide +kernel
theorem dX6_tear_1 : decode cX6_tear 1 = .ok (.getfield 10, 3) := by decide +kernel
theorem dX6_tear_4 : decode cX6_tear 4 = .ok (.iload_n 1, 1) := by decide +kernel
theorem dX6_tear_5 : decode cX6_tear 5 = .ok (.invokevirtual 134, 3) := by decide +kernel
theorem dX6_tear_8 : decode cX6_tear 8 = .ok (.istore_n 2, 1) := by decide +kernel
theorem dX6_tear_9 : decode cX6_tear 9 = .ok (.iload_n 2, 1) := by decide +kernel
theorem dX6_tear_10 : decode cX6_tear 10 = .ok (.ifCond .eq 5, 3) := by decide +kernel
theorem dX6_tear_13 : decode cX6_tear 13 = .ok (.iload_n 2, 1) := by decide +kernel
theorem dX6_tear_14 : decode cX6_tear 14 = .ok (.ireturn, 1) := by decide +kernel
theorem dX6_tear_15 : decode cX6_tear 15 = .ok (.aload_n 0, 1) := by decide +kernel
theorem dX6_tear_16 : decode cX6_tear 16 = .ok (.getfield 29, 3) := by decide +kernel
theorem dX6_tear_19 : decode cX6_tear 19 = .ok (.aload_n 0, 1) := by decide +kernel
theorem dX6_tear_20 : decode cX6_tear 20 = .ok (.getfield 10, 3) := by decide +kernel
theorem dX6_tear_23 : decode cX6_tear 23 = .ok (.invokevirtual 59, 3) := by decide +kernel
theorem dX6_tear_26 : decode cX6_tear 26 = .ok (.aload_n 0, 1) := by decide +kernel
theorem dX6_tear_27 : decode cX6_tear 27 = .ok (.getfield 10, 3) := by decide +kernel
theorem dX6_tear_30 : decode cX6_tear 30 = .ok (.iload_n 1, 1) := by decide +kernel
theorem dX6_tear_31 : decode cX6_tear 31 = .ok (.invokevirtual 138, 3) := by decide +kernel
theorem dX6_tear_34 : decode cX6_tear 34 = .ok (.ireturn, 1) := by decide +kernel
theorem dX6_ofSheet_0 : decode cX6_ofSheet 0 = .ok (.iload_n 1, 1) := by decide +kernel
theorem dX6_ofSheet_1 : decode cX6_ofSheet 1 = .ok (.invokestatic 67, 3) := by decide +kernel
theorem dX6_ofSheet_4 : decode cX6_ofSheet 4 = .ok (.ifCond .ne 5, 3) := by decide +kernel
theorem dX6_ofSheet_7 : decode cX6_ofSheet 7 = .ok (.iconst (-1), 1) := by decide +kernel
theorem dX6_ofSheet_8 : decode cX6_ofSheet 8 = .ok (.ireturn, 1) := by decide +kernel
theorem dX6_ofSheet_9 : decode cX6_ofSheet 9 = .ok (.aload_n 0, 1) := by decide +kernel
theorem dX6_ofSheet_10 : decode cX6_ofSheet 10 = .ok (.getfield 10, 3) := by decide +kernel
theorem dX6_ofSheet_13 : decode cX6_ofSheet 13 = .ok (.getfield 75, 3) := by decide +kernel
theorem dX6_ofSheet_16 : decode cX6_ofSheet 16 = .ok (.iload_n 1, 1) := by decide +kernel
theorem dX6_ofSheet_17 : decode cX6_ofSheet 17 = .ok (.aaload, 1) := by decide +kernel
theorem dX6_ofSheet_18 : decode cX6_ofSheet 18 = .ok (.astore_n 3, 1) := by decide +kernel
theorem dX6_ofSheet_19 : decode cX6_ofSheet 19 = .ok (.iload_n 2, 1) := by decide +kernel
theorem dX6_ofSheet_20 : decode cX6_ofSheet 20 = .ok (.tableswitch 110 0 7 #[48, 53, 58, 75, 80, 85, 95, 105], 48) := by decide +kernel
theorem dX6_ofSheet_68 : decode cX6_ofSheet 68 = .ok (.aload_n 3, 1) := by decide +kernel
theorem dX6_ofSheet_69 : decode cX6_ofSheet 69 = .ok (.getfield 79, 3) := by decide +kernel
theorem dX6_ofSheet_72 : decode cX6_ofSheet 72 = .ok (.ireturn, 1) := by decide +kernel
theorem dX6_ofSheet_73 : decode cX6_ofSheet 73 = .ok (.aload_n 3, 1) := by decide +kernel
theorem dX6_ofSheet_74 : decode cX6_ofSheet 74 = .ok (.getfield 88, 3) := by decide +kernel
theorem dX6_ofSheet_77 : decode cX6_ofSheet 77 = .ok (.ireturn, 1) := by decide +kernel
theorem dX6_ofSheet_78 : decode cX6_ofSheet 78 = .ok (.aload_n 0, 1) := by decide +kernel
theorem dX6_ofSheet_79 : decode cX6_ofSheet 79 = .ok (.getfield 10, 3) := by decide +kernel
theorem dX6_ofSheet_82 : decode cX6_ofSheet 82 = .ok (.iload_n 1, 1) := by decide +kernel
theorem dX6_ofSheet_83 : decode cX6_ofSheet 83 = .ok (.invokevirtual 85, 3) := by decide +kernel
theorem dX6_ofSheet_86 : decode cX6_ofSheet 86 = .ok (.ifCond .eq 7, 3) := by decide +kernel
theorem dX6_ofSheet_89 : decode cX6_ofSheet 89 = .ok (.iconst 0, 1) := by decide +kernel
theorem dX6_ofSheet_90 : decode cX6_ofSheet 90 = .ok (.goto 4, 3) := by decide +kernel
theorem dX6_ofSheet_93 : decode cX6_ofSheet 93 = .ok (.iconst 1, 1) := by decide +kernel
theorem dX6_ofSheet_94 : decode cX6_ofSheet 94 = .ok (.ireturn, 1) := by decide +kernel
theorem dX6_ofSheet_95 : decode cX6_ofSheet 95 = .ok (.aload_n 3, 1) := by decide +kernel
theorem dX6_ofSheet_96 : decode cX6_ofSheet 96 = .ok (.invokevirtual 141, 3) := by decide +kernel
theorem dX6_ofSheet_99 : decode cX6_ofSheet 99 = .ok (.ireturn, 1) := by decide +kernel
theorem dX6_ofSheet_100 : decode cX6_ofSheet 100 = .ok (.aload_n 3, 1) := by decide +kernel
theorem dX6_ofSheet_101 : decode cX6_ofSheet 101 = .ok (.invokevirtual 145, 3) := by decide +kernel
theorem dX6_ofSheet_104 : decode cX6_ofSheet 104 = .ok (.ireturn, 1) := by decide +kernel
theorem dX6_ofSheet_105 : decode cX6_ofSheet 105 = .ok (.aload_n 0, 1) := by decide +kernel
theorem dX6_ofSheet_106 : decode cX6_ofSheet 106 = .ok (.getfield 10, 3) := by decide +kernel
theorem dX6_ofSheet_109 : decode cX6_ofSheet 109 = .ok (.iconst 1, 1) := by decide +kernel
theorem dX6_ofSheet_110 : decode cX6_ofSheet 110 = .ok (.iload_n 1, 1) := by decide +kernel
theorem dX6_ofSheet_111 : decode cX6_ofSheet 111 = .ok (.invokevirtual 148, 3) := by decide +kernel
theorem dX6_ofSheet_114 : decode cX6_ofSheet 114 = .ok (.ireturn, 1) := by decide +kernel
theorem dX6_ofSheet_115 : decode cX6_ofSheet 115 = .ok (.aload_n 0, 1) := by decide +kernel
theorem dX6_ofSheet_116 : decode cX6_ofSheet 116 = .ok (.getfield 10, 3) := by decide +kernel
theorem dX6_ofSheet_119 : decode cX6_ofSheet 119 = .ok (.iconst 2, 1) := by decide +kernel
theorem dX6_ofSheet_120 : decode cX6_ofSheet 120 = .ok (.iload_n 1, 1) := by decide +kernel
theorem dX6_ofSheet_121 : decode cX6_ofSheet 121 = .ok (.invokevirtual 148, 3) := by decide +kernel
theorem dX6_ofSheet_124 : decode cX6_ofSheet 124 = .ok (.ireturn, 1) := by decide +kernel
theorem dX6_ofSheet_125 : decode cX6_ofSheet 125 = .ok (.aload_n 3, 1) := by decide +kernel
theorem dX6_ofSheet_126 : decode cX6_ofSheet 126 = .ok (.getfield 151, 3) := by decide +kernel
theorem dX6_ofSheet_129 : decode cX6_ofSheet 129 = .ok (.ireturn, 1) := by decide +kernel
theorem dX6_ofSheet_130 : decode cX6_ofSheet 130 = .ok (.bipush (-2), 2) := by decide +kernel
theorem dX6_ofSheet_132 : decode cX6_ofSheet 132 = .ok (.ireturn, 1) := by decide +kernel
theorem dX6_reading_0 : decode cX6_reading 0 = .ok (.iload_n 1, 1) := by decide +kernel
theorem dX6_reading_1 : decode cX6_reading 1 = .ok (.invokestatic 67, 3) := by decide +kernel
theorem dX6_reading_4 : decode cX6_reading 4 = .ok (.ifCond .eq 10, 3) := by decide +kernel
theorem dX6_reading_7 : decode cX6_reading 7 = .ok (.iload_n 2, 1) := by decide +kernel
theorem dX6_reading_8 : decode cX6_reading 8 = .ok (.invokestatic 105, 3) := by decide +kernel
theorem dX6_reading_11 : decode cX6_reading 11 = .ok (.ifCond .ne 5, 3) := by decide +kernel
theorem dX6_reading_14 : decode cX6_reading 14 = .ok (.iconst (-1), 1) := by decide +kernel
theorem dX6_reading_15 : decode cX6_reading 15 = .ok (.ireturn, 1) := by decide +kernel
theorem dX6_reading_16 : decode cX6_reading 16 = .ok (.aload_n 0, 1) := by decide +kernel
theorem dX6_reading_17 : decode cX6_reading 17 = .ok (.getfield 10, 3) := by decide +kernel
theorem dX6_reading_20 : decode cX6_reading 20 = .ok (.getfield 75, 3) := by decide +kernel
theorem dX6_reading_23 : decode cX6_reading 23 = .ok (.iload_n 1, 1) := by decide +kernel
theorem dX6_reading_24 : decode cX6_reading 24 = .ok (.aaload, 1) := by decide +kernel
theorem dX6_reading_25 : decode cX6_reading 25 = .ok (.astore 4, 2) := by decide +kernel
theorem dX6_reading_27 : decode cX6_reading 27 = .ok (.aload 4, 2) := by decide +kernel
theorem dX6_reading_29 : decode cX6_reading 29 = .ok (.iload_n 2, 1) := by decide +kernel
theorem dX6_reading_30 : decode cX6_reading 30 = .ok (.aload_n 0, 1) := by decide +kernel
theorem dX6_reading_31 : decode cX6_reading 31 = .ok (.getfield 10, 3) := by decide +kernel
theorem dX6_reading_34 : decode cX6_reading 34 = .ok (.getfield 63, 3) := by decide +kernel
theorem dX6_reading_37 : decode cX6_reading 37 = .ok (.iconst 0, 1) := by decide +kernel
theorem dX6_reading_38 : decode cX6_reading 38 = .ok (.iaload, 1) := by decide +kernel
theorem dX6_reading_39 : decode cX6_reading 39 = .ok (.invokevirtual 154, 3) := by decide +kernel
theorem dX6_reading_42 : decode cX6_reading 42 = .ok (.istore 5, 2) := by decide +kernel
theorem dX6_reading_44 : decode cX6_reading 44 = .ok (.iload_n 3, 1) := by decide +kernel
theorem dX6_reading_45 : decode cX6_reading 45 = .ok (.tableswitch 107 0 4 #[35, 45, 64, 83, 91], 35) := by decide +kernel
theorem dX6_reading_80 : decode cX6_reading 80 = .ok (.aload_n 0, 1) := by decide +kernel
theorem dX6_reading_81 : decode cX6_reading 81 = .ok (.getfield 10, 3) := by decide +kernel
theorem dX6_reading_84 : decode cX6_reading 84 = .ok (.iload_n 1, 1) := by decide +kernel
theorem dX6_reading_85 : decode cX6_reading 85 = .ok (.iload_n 2, 1) := by decide +kernel
theorem dX6_reading_86 : decode cX6_reading 86 = .ok (.invokevirtual 157, 3) := by decide +kernel
theorem dX6_reading_89 : decode cX6_reading 89 = .ok (.ireturn, 1) := by decide +kernel
theorem dX6_reading_90 : decode cX6_reading 90 = .ok (.iload 5, 2) := by decide +kernel
theorem dX6_reading_92 : decode cX6_reading 92 = .ok (.ifCond .ge 8, 3) := by decide +kernel
theorem dX6_reading_95 : decode cX6_reading 95 = .ok (.bipush (-6), 2) := by decide +kernel
theorem dX6_reading_97 : decode cX6_reading 97 = .ok (.goto 11, 3) := by decide +kernel
theorem dX6_reading_100 : decode cX6_reading 100 = .ok (.aload 4, 2) := by decide +kernel
theorem dX6_reading_102 : decode cX6_reading 102 = .ok (.iload_n 2, 1) := by decide +kernel
theorem dX6_reading_103 : decode cX6_reading 103 = .ok (.iload 5, 2) := by decide +kernel
theorem dX6_reading_105 : decode cX6_reading 105 = .ok (.invokevirtual 160, 3) := by decide +kernel
theorem dX6_reading_108 : decode cX6_reading 108 = .ok (.ireturn, 1) := by decide +kernel
theorem dX6_reading_109 : decode cX6_reading 109 = .ok (.iload 5, 2) := by decide +kernel
theorem dX6_reading_111 : decode cX6_reading 111 = .ok (.ifCond .ge 8, 3) := by decide +kernel
theorem dX6_reading_114 : decode cX6_reading 114 = .ok (.bipush (-6), 2) := by decide +kernel
theorem dX6_reading_116 : decode cX6_reading 116 = .ok (.goto 11, 3) := by decide +kernel
theorem dX6_reading_119 : decode cX6_reading 119 = .ok (.aload 4, 2) := by decide +kernel
theorem dX6_reading_121 : decode cX6_reading 121 = .ok (.iload_n 2, 1) := by decide +kernel
theorem dX6_reading_122 : decode cX6_reading 122 = .ok (.iload 5, 2) := by decide +kernel
theorem dX6_reading_124 : decode cX6_reading 124 = .ok (.invokevirtual 163, 3) := by decide +kernel
theorem dX6_reading_127 : decode cX6_reading 127 = .ok (.ireturn, 1) := by decide +kernel
theorem dX6_reading_128 : decode cX6_reading 128 = .ok (.aload 4, 2) := by decide +kernel
theorem dX6_reading_130 : decode cX6_reading 130 = .ok (.getfield 131, 3) := by decide +kernel
theorem dX6_reading_133 : decode cX6_reading 133 = .ok (.iload_n 2, 1) := by decide +kernel
theorem dX6_reading_134 : decode cX6_reading 134 = .ok (.iaload, 1) := by decide +kernel
theorem dX6_reading_135 : decode cX6_reading 135 = .ok (.ireturn, 1) := by decide +kernel
theorem dX6_reading_136 : decode cX6_reading 136 = .ok (.aload 4, 2) := by decide +kernel
theorem dX6_reading_138 : decode cX6_reading 138 = .ok (.iload_n 2, 1) := by decide +kernel
theorem dX6_reading_139 : decode cX6_reading 139 = .ok (.aload_n 0, 1) := by decide +kernel
theorem dX6_reading_140 : decode cX6_reading 140 = .ok (.getfield 10, 3) := by decide +kernel
theorem dX6_reading_143 : decode cX6_reading 143 = .ok (.getfield 63, 3) := by decide +kernel
theorem dX6_reading_146 : decode cX6_reading 146 = .ok (.iconst 0, 1) := by decide +kernel
theorem dX6_reading_147 : decode cX6_reading 147 = .ok (.iaload, 1) := by decide +kernel
theorem dX6_reading_148 : decode cX6_reading 148 = .ok (.invokevirtual 166, 3) := by decide +kernel
theorem dX6_reading_151 : decode cX6_reading 151 = .ok (.ireturn, 1) := by decide +kernel
theorem dX6_reading_152 : decode cX6_reading 152 = .ok (.bipush (-2), 2) := by decide +kernel
theorem dX6_reading_154 : decode cX6_reading 154 = .ok (.ireturn, 1) := by decide +kernel
theorem dX6_ofMark_0 : decode cX6_ofMark 0 = .ok (.iload_n 1, 1) := by decide +kernel
theorem dX6_ofMark_1 : decode cX6_ofMark 1 = .ok (.invokestatic 67, 3) := by decide +kernel
theorem dX6_ofMark_4 : decode cX6_ofMark 4 = .ok (.ifCond .eq 10, 3) := by decide +kernel
theorem dX6_ofMark_7 : decode cX6_ofMark 7 = .ok (.iload_n 2, 1) := by decide +kernel
theorem dX6_ofMark_8 : decode cX6_ofMark 8 = .ok (.invokestatic 105, 3) := by decide +kernel
theorem dX6_ofMark_11 : decode cX6_ofMark 11 = .ok (.ifCond .ne 5, 3) := by decide +kernel
theorem dX6_ofMark_14 : decode cX6_ofMark 14 = .ok (.iconst (-1), 1) := by decide +kernel
theorem dX6_ofMark_15 : decode cX6_ofMark 15 = .ok (.ireturn, 1) := by decide +kernel
theorem dX6_ofMark_16 : decode cX6_ofMark 16 = .ok (.aload_n 0, 1) := by decide +kernel
theorem dX6_ofMark_17 : decode cX6_ofMark 17 = .ok (.getfield 10, 3) := by decide +kernel
theorem dX6_ofMark_20 : decode cX6_ofMark 20 = .ok (.getfield 75, 3) := by decide +kernel
theorem dX6_ofMark_23 : decode cX6_ofMark 23 = .ok (.iload_n 1, 1) := by decide +kernel
theorem dX6_ofMark_24 : decode cX6_ofMark 24 = .ok (.aaload, 1) := by decide +kernel
theorem dX6_ofMark_25 : decode cX6_ofMark 25 = .ok (.astore 5, 2) := by decide +kernel
theorem dX6_ofMark_27 : decode cX6_ofMark 27 = .ok (.iload_n 3, 1) := by decide +kernel
theorem dX6_ofMark_28 : decode cX6_ofMark 28 = .ok (.ifCond .lt 14, 3) := by decide +kernel
theorem dX6_ofMark_31 : decode cX6_ofMark 31 = .ok (.iload_n 3, 1) := by decide +kernel
theorem dX6_ofMark_32 : decode cX6_ofMark 32 = .ok (.aload 5, 2) := by decide +kernel
theorem dX6_ofMark_34 : decode cX6_ofMark 34 = .ok (.getfield 131, 3) := by decide +kernel
theorem dX6_ofMark_37 : decode cX6_ofMark 37 = .ok (.iload_n 2, 1) := by decide +kernel
theorem dX6_ofMark_38 : decode cX6_ofMark 38 = .ok (.iaload, 1) := by decide +kernel
theorem dX6_ofMark_39 : decode cX6_ofMark 39 = .ok (.if_icmp .lt 5, 3) := by decide +kernel
theorem dX6_ofMark_42 : decode cX6_ofMark 42 = .ok (.iconst (-1), 1) := by decide +kernel
theorem dX6_ofMark_43 : decode cX6_ofMark 43 = .ok (.ireturn, 1) := by decide +kernel
theorem dX6_ofMark_44 : decode cX6_ofMark 44 = .ok (.iload 4, 2) := by decide +kernel
theorem dX6_ofMark_46 : decode cX6_ofMark 46 = .ok (.tableswitch 58 0 2 #[26, 34, 42], 26) := by decide +kernel
theorem dX6_ofMark_72 : decode cX6_ofMark 72 = .ok (.aload 5, 2) := by decide +kernel
theorem dX6_ofMark_74 : decode cX6_ofMark 74 = .ok (.iload_n 2, 1) := by decide +kernel
theorem dX6_ofMark_75 : decode cX6_ofMark 75 = .ok (.iload_n 3, 1) := by decide +kernel
theorem dX6_ofMark_76 : decode cX6_ofMark 76 = .ok (.invokevirtual 160, 3) := by decide +kernel
theorem dX6_ofMark_79 : decode cX6_ofMark 79 = .ok (.ireturn, 1) := by decide +kernel
theorem dX6_ofMark_80 : decode cX6_ofMark 80 = .ok (.aload 5, 2) := by decide +kernel
theorem dX6_ofMark_82 : decode cX6_ofMark 82 = .ok (.iload_n 2, 1) := by decide +kernel
theorem dX6_ofMark_83 : decode cX6_ofMark 83 = .ok (.iload_n 3, 1) := by decide +kernel
theorem dX6_ofMark_84 : decode cX6_ofMark 84 = .ok (.invokevirtual 163, 3) := by decide +kernel
theorem dX6_ofMark_87 : decode cX6_ofMark 87 = .ok (.ireturn, 1) := by decide +kernel
theorem dX6_ofMark_88 : decode cX6_ofMark 88 = .ok (.aload 5, 2) := by decide +kernel
theorem dX6_ofMark_90 : decode cX6_ofMark 90 = .ok (.iload_n 2, 1) := by decide +kernel
theorem dX6_ofMark_91 : decode cX6_ofMark 91 = .ok (.iload_n 3, 1) := by decide +kernel
theorem dX6_ofMark_92 : decode cX6_ofMark 92 = .ok (.invokevirtual 169, 3) := by decide +kernel
theorem dX6_ofMark_95 : decode cX6_ofMark 95 = .ok (.ifCond .eq 7, 3) := by decide +kernel
theorem dX6_ofMark_98 : decode cX6_ofMark 98 = .ok (.iconst 1, 1) := by decide +kernel
theorem dX6_ofMark_99 : decode cX6_ofMark 99 = .ok (.goto 4, 3) := by decide +kernel
theorem dX6_ofMark_102 : decode cX6_ofMark 102 = .ok (.iconst 0, 1) := by decide +kernel
theorem dX6_ofMark_103 : decode cX6_ofMark 103 = .ok (.ireturn, 1) := by decide +kernel
theorem dX6_ofMark_104 : decode cX6_ofMark 104 = .ok (.bipush (-2), 2) := by decide +kernel
theorem dX6_ofMark_106 : decode cX6_ofMark 106 = .ok (.ireturn, 1) := by decide +kernel
theorem dX6_together_0 : decode cX6_together 0 = .ok (.iload_n 1, 1) := by decide +kernel
theorem dX6_together_1 : decode cX6_together 1 = .ok (.invokestatic 105, 3) := by decide +kernel
theorem dX6_together_4 : decode cX6_together 4 = .ok (.ifCond .ne 5, 3) := by decide +kernel
theorem dX6_together_7 : decode cX6_together 7 = .ok (.iconst (-1), 1) := by decide +kernel
theorem dX6_together_8 : decode cX6_together 8 = .ok (.ireturn, 1) := by decide +kernel
theorem dX6_together_9 : decode cX6_together 9 = .ok (.aload_n 0, 1) := by decide +kernel
theorem dX6_together_10 : decode cX6_together 10 = .ok (.getfield 22, 3) := by decide +kernel
theorem dX6_together_13 : decode cX6_together 13 = .ok (.aload_n 0, 1) := by decide +kernel
theorem dX6_together_14 : decode cX6_together 14 = .ok (.getfield 10, 3) := by decide +kernel
theorem dX6_together_17 : decode cX6_together 17 = .ok (.iload_n 1, 1) := by decide +kernel
theorem dX6_together_18 : decode cX6_together 18 = .ok (.invokevirtual 172, 3) := by decide +kernel
theorem dX6_together_21 : decode cX6_together 21 = .ok (.iload_n 2, 1) := by decide +kernel
theorem dX6_together_22 : decode cX6_together 22 = .ok (.tableswitch 74 0 4 #[34, 42, 50, 58, 66], 34) := by decide +kernel
theorem dX6_together_56 : decode cX6_together 56 = .ok (.aload_n 0, 1) := by decide +kernel
theorem dX6_together_57 : decode cX6_together 57 = .ok (.getfield 22, 3) := by decide +kernel
theorem dX6_together_60 : decode cX6_together 60 = .ok (.getfield 176, 3) := by decide +kernel
theorem dX6_together_63 : decode cX6_together 63 = .ok (.ireturn, 1) := by decide +kernel
theorem dX6_together_64 : decode cX6_together 64 = .ok (.aload_n 0, 1) := by decide +kernel
theorem dX6_together_65 : decode cX6_together 65 = .ok (.getfield 22, 3) := by decide +kernel
theorem dX6_together_68 : decode cX6_together 68 = .ok (.getfield 179, 3) := by decide +kernel
theorem dX6_together_71 : decode cX6_together 71 = .ok (.ireturn, 1) := by decide +kernel
theorem dX6_together_72 : decode cX6_together 72 = .ok (.aload_n 0, 1) := by decide +kernel
theorem dX6_together_73 : decode cX6_together 73 = .ok (.getfield 22, 3) := by decide +kernel
theorem dX6_together_76 : decode cX6_together 76 = .ok (.getfield 182, 3) := by decide +kernel
theorem dX6_together_79 : decode cX6_together 79 = .ok (.ireturn, 1) := by decide +kernel
theorem dX6_together_80 : decode cX6_together 80 = .ok (.aload_n 0, 1) := by decide +kernel
theorem dX6_together_81 : decode cX6_together 81 = .ok (.getfield 22, 3) := by decide +kernel
theorem dX6_together_84 : decode cX6_together 84 = .ok (.getfield 185, 3) := by decide +kernel
theorem dX6_together_87 : decode cX6_together 87 = .ok (.ireturn, 1) := by decide +kernel
theorem dX6_together_88 : decode cX6_together 88 = .ok (.aload_n 0, 1) := by decide +kernel
theorem dX6_together_89 : decode cX6_together 89 = .ok (.getfield 22, 3) := by decide +kernel
theorem dX6_together_92 : decode cX6_together 92 = .ok (.getfield 188, 3) := by decide +kernel
theorem dX6_together_95 : decode cX6_together 95 = .ok (.ireturn, 1) := by decide +kernel
theorem dX6_together_96 : decode cX6_together 96 = .ok (.bipush (-2), 2) := by decide +kernel
theorem dX6_together_98 : decode cX6_together 98 = .ok (.ireturn, 1) := by decide +kernel
theorem dX6_count_0 : decode cX6_count 0 = .ok (.iload_n 1, 1) := by decide +kernel
theorem dX6_count_1 : decode cX6_count 1 = .ok (.tableswitch 167 0 9 #[55, 78, 101, 109, 117, 124, 131, 139, 147, 157], 55) := by decide +kernel
theorem dX6_count_56 : decode cX6_count 56 = .ok (.aload_n 0, 1) := by decide +kernel
theorem dX6_count_57 : decode cX6_count 57 = .ok (.getfield 10, 3) := by decide +kernel
theorem dX6_count_60 : decode cX6_count 60 = .ok (.invokevirtual 191, 3) := by decide +kernel
theorem dX6_count_63 : decode cX6_count 63 = .ok (.ifCond .eq 8, 3) := by decide +kernel
theorem dX6_count_66 : decode cX6_count 66 = .ok (.bipush (-6), 2) := by decide +kernel
theorem dX6_count_68 : decode cX6_count 68 = .ok (.goto 10, 3) := by decide +kernel
theorem dX6_count_71 : decode cX6_count 71 = .ok (.aload_n 0, 1) := by decide +kernel
theorem dX6_count_72 : decode cX6_count 72 = .ok (.getfield 10, 3) := by decide +kernel
theorem dX6_count_75 : decode cX6_count 75 = .ok (.getfield 108, 3) := by decide +kernel
theorem dX6_count_78 : decode cX6_count 78 = .ok (.ireturn, 1) := by decide +kernel
theorem dX6_count_79 : decode cX6_count 79 = .ok (.aload_n 0, 1) := by decide +kernel
theorem dX6_count_80 : decode cX6_count 80 = .ok (.getfield 10, 3) := by decide +kernel
theorem dX6_count_83 : decode cX6_count 83 = .ok (.invokevirtual 191, 3) := by decide +kernel
theorem dX6_count_86 : decode cX6_count 86 = .ok (.ifCond .eq 8, 3) := by decide +kernel
theorem dX6_count_89 : decode cX6_count 89 = .ok (.bipush (-6), 2) := by decide +kernel
theorem dX6_count_91 : decode cX6_count 91 = .ok (.goto 10, 3) := by decide +kernel
theorem dX6_count_94 : decode cX6_count 94 = .ok (.aload_n 0, 1) := by decide +kernel
theorem dX6_count_95 : decode cX6_count 95 = .ok (.getfield 10, 3) := by decide +kernel
theorem dX6_count_98 : decode cX6_count 98 = .ok (.getfield 195, 3) := by decide +kernel
theorem dX6_count_101 : decode cX6_count 101 = .ok (.ireturn, 1) := by decide +kernel
theorem dX6_count_102 : decode cX6_count 102 = .ok (.aload_n 0, 1) := by decide +kernel
theorem dX6_count_103 : decode cX6_count 103 = .ok (.getfield 10, 3) := by decide +kernel
theorem dX6_count_106 : decode cX6_count 106 = .ok (.invokevirtual 198, 3) := by decide +kernel
theorem dX6_count_109 : decode cX6_count 109 = .ok (.ireturn, 1) := by decide +kernel
theorem dX6_count_110 : decode cX6_count 110 = .ok (.aload_n 0, 1) := by decide +kernel
theorem dX6_count_111 : decode cX6_count 111 = .ok (.getfield 10, 3) := by decide +kernel
theorem dX6_count_114 : decode cX6_count 114 = .ok (.invokevirtual 201, 3) := by decide +kernel
theorem dX6_count_117 : decode cX6_count 117 = .ok (.ireturn, 1) := by decide +kernel
theorem dX6_count_118 : decode cX6_count 118 = .ok (.aload_n 0, 1) := by decide +kernel
theorem dX6_count_119 : decode cX6_count 119 = .ok (.iconst 1, 1) := by decide +kernel
theorem dX6_count_120 : decode cX6_count 120 = .ok (.iconst 1, 1) := by decide +kernel
theorem dX6_count_121 : decode cX6_count 121 = .ok (.invokevirtual 202, 3) := by decide +kernel
theorem dX6_count_124 : decode cX6_count 124 = .ok (.ireturn, 1) := by decide +kernel
theorem dX6_count_125 : decode cX6_count 125 = .ok (.aload_n 0, 1) := by decide +kernel
theorem dX6_count_126 : decode cX6_count 126 = .ok (.iconst 2, 1) := by decide +kernel
theorem dX6_count_127 : decode cX6_count 127 = .ok (.iconst 5, 1) := by decide +kernel
theorem dX6_count_128 : decode cX6_count 128 = .ok (.invokevirtual 202, 3) := by decide +kernel
theorem dX6_count_131 : decode cX6_count 131 = .ok (.ireturn, 1) := by decide +kernel
theorem dX6_count_132 : decode cX6_count 132 = .ok (.aload_n 0, 1) := by decide +kernel
theorem dX6_count_133 : decode cX6_count 133 = .ok (.getfield 44, 3) := by decide +kernel
theorem dX6_count_136 : decode cX6_count 136 = .ok (.getfield 205, 3) := by decide +kernel
theorem dX6_count_139 : decode cX6_count 139 = .ok (.ireturn, 1) := by decide +kernel
theorem dX6_count_140 : decode cX6_count 140 = .ok (.aload_n 0, 1) := by decide +kernel
theorem dX6_count_141 : decode cX6_count 141 = .ok (.getfield 29, 3) := by decide +kernel
theorem dX6_count_144 : decode cX6_count 144 = .ok (.getfield 208, 3) := by decide +kernel
theorem dX6_count_147 : decode cX6_count 147 = .ok (.ireturn, 1) := by decide +kernel
theorem dX6_count_148 : decode cX6_count 148 = .ok (.aload_n 0, 1) := by decide +kernel
theorem dX6_count_149 : decode cX6_count 149 = .ok (.getfield 10, 3) := by decide +kernel
theorem dX6_count_152 : decode cX6_count 152 = .ok (.getfield 63, 3) := by decide +kernel
theorem dX6_count_155 : decode cX6_count 155 = .ok (.iconst 0, 1) := by decide +kernel
theorem dX6_count_156 : decode cX6_count 156 = .ok (.iaload, 1) := by decide +kernel
theorem dX6_count_157 : decode cX6_count 157 = .ok (.ireturn, 1) := by decide +kernel
theorem dX6_count_158 : decode cX6_count 158 = .ok (.aload_n 0, 1) := by decide +kernel
theorem dX6_count_159 : decode cX6_count 159 = .ok (.getfield 10, 3) := by decide +kernel
theorem dX6_count_162 : decode cX6_count 162 = .ok (.getfield 63, 3) := by decide +kernel
theorem dX6_count_165 : decode cX6_count 165 = .ok (.iconst 1, 1) := by decide +kernel
theorem dX6_count_166 : decode cX6_count 166 = .ok (.iaload, 1) := by decide +kernel
theorem dX6_count_167 : decode cX6_count 167 = .ok (.ireturn, 1) := by decide +kernel
theorem dX6_count_168 : decode cX6_count 168 = .ok (.bipush (-2), 2) := by decide +kernel
theorem dX6_count_170 : decode cX6_count 170 = .ok (.ireturn, 1) := by decide +kernel
theorem dX6_differ_0 : decode cX6_differ 0 = .ok (.iload_n 1, 1) := by decide +kernel
theorem dX6_differ_1 : decode cX6_differ 1 = .ok (.invokestatic 67, 3) := by decide +kernel
theorem dX6_differ_4 : decode cX6_differ 4 = .ok (.ifCond .eq 10, 3) := by decide +kernel
theorem dX6_differ_7 : decode cX6_differ 7 = .ok (.iload_n 2, 1) := by decide +kernel
theorem dX6_differ_8 : decode cX6_differ 8 = .ok (.invokestatic 67, 3) := by decide +kernel
theorem dX6_differ_11 : decode cX6_differ 11 = .ok (.ifCond .ne 5, 3) := by decide +kernel
theorem dX6_differ_14 : decode cX6_differ 14 = .ok (.iconst (-1), 1) := by decide +kernel
theorem dX6_differ_15 : decode cX6_differ 15 = .ok (.ireturn, 1) := by decide +kernel
theorem dX6_differ_16 : decode cX6_differ 16 = .ok (.iconst 0, 1) := by decide +kernel
theorem dX6_differ_17 : decode cX6_differ 17 = .ok (.istore_n 3, 1) := by decide +kernel
theorem dX6_differ_18 : decode cX6_differ 18 = .ok (.iconst 0, 1) := by decide +kernel
theorem dX6_differ_19 : decode cX6_differ 19 = .ok (.istore 4, 2) := by decide +kernel
theorem dX6_differ_21 : decode cX6_differ 21 = .ok (.iload 4, 2) := by decide +kernel
theorem dX6_differ_23 : decode cX6_differ 23 = .ok (.bipush 10, 2) := by decide +kernel
theorem dX6_differ_25 : decode cX6_differ 25 = .ok (.if_icmp .ge 30, 3) := by decide +kernel
theorem dX6_differ_28 : decode cX6_differ 28 = .ok (.aload_n 0, 1) := by decide +kernel
theorem dX6_differ_29 : decode cX6_differ 29 = .ok (.getfield 10, 3) := by decide +kernel
theorem dX6_differ_32 : decode cX6_differ 32 = .ok (.iload_n 1, 1) := by decide +kernel
theorem dX6_differ_33 : decode cX6_differ 33 = .ok (.iload_n 2, 1) := by decide +kernel
theorem dX6_differ_34 : decode cX6_differ 34 = .ok (.iload 4, 2) := by decide +kernel
theorem dX6_differ_36 : decode cX6_differ 36 = .ok (.invokevirtual 211, 3) := by decide +kernel
theorem dX6_differ_39 : decode cX6_differ 39 = .ok (.ifCond .ne 10, 3) := by decide +kernel
theorem dX6_differ_42 : decode cX6_differ 42 = .ok (.iload_n 3, 1) := by decide +kernel
theorem dX6_differ_43 : decode cX6_differ 43 = .ok (.iconst 1, 1) := by decide +kernel
theorem dX6_differ_44 : decode cX6_differ 44 = .ok (.iload 4, 2) := by decide +kernel
theorem dX6_differ_46 : decode cX6_differ 46 = .ok (.ishl, 1) := by decide +kernel
theorem dX6_differ_47 : decode cX6_differ 47 = .ok (.ior, 1) := by decide +kernel
theorem dX6_differ_48 : decode cX6_differ 48 = .ok (.istore_n 3, 1) := by decide +kernel
theorem dX6_differ_49 : decode cX6_differ 49 = .ok (.iinc 4 1, 3) := by decide +kernel
theorem dX6_differ_52 : decode cX6_differ 52 = .ok (.goto (-31), 3) := by decide +kernel
theorem dX6_differ_55 : decode cX6_differ 55 = .ok (.iload_n 3, 1) := by decide +kernel
theorem dX6_differ_56 : decode cX6_differ 56 = .ok (.ireturn, 1) := by decide +kernel
theorem dX6_enoughFor_0 : decode cX6_enoughFor 0 = .ok (.iload_n 1, 1) := by decide +kernel
theorem dX6_enoughFor_1 : decode cX6_enoughFor 1 = .ok (.invokestatic 67, 3) := by decide +kernel
theorem dX6_enoughFor_4 : decode cX6_enoughFor 4 = .ok (.ifCond .ne 5, 3) := by decide +kernel
theorem dX6_enoughFor_7 : decode cX6_enoughFor 7 = .ok (.iconst (-1), 1) := by decide +kernel
theorem dX6_enoughFor_8 : decode cX6_enoughFor 8 = .ok (.ireturn, 1) := by decide +kernel
theorem dX6_enoughFor_9 : decode cX6_enoughFor 9 = .ok (.iconst 1, 1) := by decide +kernel
theorem dX6_enoughFor_10 : decode cX6_enoughFor 10 = .ok (.istore_n 2, 1) := by decide +kernel
theorem dX6_enoughFor_11 : decode cX6_enoughFor 11 = .ok (.iload_n 2, 1) := by decide +kernel
theorem dX6_enoughFor_12 : decode cX6_enoughFor 12 = .ok (.bipush 9, 2) := by decide +kernel
theorem dX6_enoughFor_14 : decode cX6_enoughFor 14 = .ok (.if_icmp .gt 40, 3) := by decide +kernel
theorem dX6_enoughFor_17 : decode cX6_enoughFor 17 = .ok (.aload_n 0, 1) := by decide +kernel
theorem dX6_enoughFor_18 : decode cX6_enoughFor 18 = .ok (.getfield 10, 3) := by decide +kernel
theorem dX6_enoughFor_21 : decode cX6_enoughFor 21 = .ok (.iload_n 2, 1) := by decide +kernel
theorem dX6_enoughFor_22 : decode cX6_enoughFor 22 = .ok (.invokevirtual 214, 3) := by decide +kernel
theorem dX6_enoughFor_25 : decode cX6_enoughFor 25 = .ok (.aload_n 0, 1) := by decide +kernel
theorem dX6_enoughFor_26 : decode cX6_enoughFor 26 = .ok (.getfield 10, 3) := by decide +kernel
theorem dX6_enoughFor_29 : decode cX6_enoughFor 29 = .ok (.getfield 218, 3) := by decide +kernel
theorem dX6_enoughFor_32 : decode cX6_enoughFor 32 = .ok (.iload_n 1, 1) := by decide +kernel
theorem dX6_enoughFor_33 : decode cX6_enoughFor 33 = .ok (.iaload, 1) := by decide +kernel
theorem dX6_enoughFor_34 : decode cX6_enoughFor 34 = .ok (.aload_n 0, 1) := by decide +kernel
theorem dX6_enoughFor_35 : decode cX6_enoughFor 35 = .ok (.getfield 10, 3) := by decide +kernel
theorem dX6_enoughFor_38 : decode cX6_enoughFor 38 = .ok (.getfield 63, 3) := by decide +kernel
theorem dX6_enoughFor_41 : decode cX6_enoughFor 41 = .ok (.iconst 0, 1) := by decide +kernel
theorem dX6_enoughFor_42 : decode cX6_enoughFor 42 = .ok (.iaload, 1) := by decide +kernel
theorem dX6_enoughFor_43 : decode cX6_enoughFor 43 = .ok (.if_icmp .lt 5, 3) := by decide +kernel
theorem dX6_enoughFor_46 : decode cX6_enoughFor 46 = .ok (.iload_n 2, 1) := by decide +kernel
theorem dX6_enoughFor_47 : decode cX6_enoughFor 47 = .ok (.ireturn, 1) := by decide +kernel
theorem dX6_enoughFor_48 : decode cX6_enoughFor 48 = .ok (.iinc 2 1, 3) := by decide +kernel
theorem dX6_enoughFor_51 : decode cX6_enoughFor 51 = .ok (.goto (-40), 3) := by decide +kernel
theorem dX6_enoughFor_54 : decode cX6_enoughFor 54 = .ok (.bipush (-6), 2) := by decide +kernel
theorem dX6_enoughFor_56 : decode cX6_enoughFor 56 = .ok (.ireturn, 1) := by decide +kernel
theorem dX6_strikeFor_0 : decode cX6_strikeFor 0 = .ok (.iload_n 1, 1) := by decide +kernel
theorem dX6_strikeFor_1 : decode cX6_strikeFor 1 = .ok (.invokestatic 105, 3) := by decide +kernel
theorem dX6_strikeFor_4 : decode cX6_strikeFor 4 = .ok (.ifCond .ne 5, 3) := by decide +kernel
theorem dX6_strikeFor_7 : decode cX6_strikeFor 7 = .ok (.iconst (-1), 1) := by decide +kernel
theorem dX6_strikeFor_8 : decode cX6_strikeFor 8 = .ok (.ireturn, 1) := by decide +kernel
theorem dX6_strikeFor_9 : decode cX6_strikeFor 9 = .ok (.aload_n 0, 1) := by decide +kernel
theorem dX6_strikeFor_10 : decode cX6_strikeFor 10 = .ok (.getfield 10, 3) := by decide +kernel
theorem dX6_strikeFor_13 : decode cX6_strikeFor 13 = .ok (.invokevirtual 191, 3) := by decide +kernel
theorem dX6_strikeFor_16 : decode cX6_strikeFor 16 = .ok (.ifCond .eq 6, 3) := by decide +kernel
theorem dX6_strikeFor_19 : decode cX6_strikeFor 19 = .ok (.bipush (-6), 2) := by decide +kernel
theorem dX6_strikeFor_21 : decode cX6_strikeFor 21 = .ok (.ireturn, 1) := by decide +kernel
