theorem dX7_init_0 : decode cX7_init 0 = .ok (.aload_n 0, 1) := by decide +kernel
theorem dX7_init_1 : decode cX7_init 1 = .ok (.invokespecial 1, 3) := by decide +kernel
theorem dX7_init_4 : decode cX7_init 4 = .ok (.aload_n 0, 1) := by decide +kernel
theorem dX7_init_5 : decode cX7_init 5 = .ok (.sipush 470, 3) := by decide +kernel
theorem dX7_init_8 : decode cX7_init 8 = .ok (.newarray .int, 2) := by decide +kernel
theorem dX7_init_10 : decode cX7_init 10 = .ok (.putfield 7, 3) := by decide +kernel
theorem dX7_init_13 : decode cX7_init 13 = .ok (.aload_n 0, 1) := by decide +kernel
theorem dX7_init_14 : decode cX7_init 14 = .ok (.sipush 470, 3) := by decide +kernel
theorem dX7_init_17 : decode cX7_init 17 = .ok (.newarray .int, 2) := by decide +kernel
theorem dX7_init_19 : decode cX7_init 19 = .ok (.putfield 13, 3) := by decide +kernel
theorem dX7_init_22 : decode cX7_init 22 = .ok (.aload_n 0, 1) := by decide +kernel
theorem dX7_init_23 : decode cX7_init 23 = .ok (.sipush 2820, 3) := by decide +kernel
theorem dX7_init_26 : decode cX7_init 26 = .ok (.newarray .int, 2) := by decide +kernel
theorem dX7_init_28 : decode cX7_init 28 = .ok (.putfield 16, 3) := by decide +kernel
theorem dX7_init_31 : decode cX7_init 31 = .ok (.aload_n 0, 1) := by decide +kernel
theorem dX7_init_32 : decode cX7_init 32 = .ok (.sipush 940, 3) := by decide +kernel
theorem dX7_init_35 : decode cX7_init 35 = .ok (.newarray .int, 2) := by decide +kernel
theorem dX7_init_37 : decode cX7_init 37 = .ok (.putfield 19, 3) := by decide +kernel
theorem dX7_init_40 : decode cX7_init 40 = .ok (.aload_n 0, 1) := by decide +kernel
theorem dX7_init_41 : decode cX7_init 41 = .ok (.iconst 2, 1) := by decide +kernel
theorem dX7_init_42 : decode cX7_init 42 = .ok (.newarray .boolean, 2) := by decide +kernel
theorem dX7_init_44 : decode cX7_init 44 = .ok (.putfield 22, 3) := by decide +kernel
theorem dX7_init_47 : decode cX7_init 47 = .ok (.aload_n 0, 1) := by decide +kernel
theorem dX7_init_48 : decode cX7_init 48 = .ok (.bipush 80, 2) := by decide +kernel
theorem dX7_init_50 : decode cX7_init 50 = .ok (.newarray .int, 2) := by decide +kernel
theorem dX7_init_52 : decode cX7_init 52 = .ok (.putfield 26, 3) := by decide +kernel
theorem dX7_init_55 : decode cX7_init 55 = .ok (.aload_n 0, 1) := by decide +kernel
theorem dX7_init_56 : decode cX7_init 56 = .ok (.iconst 5, 1) := by decide +kernel
theorem dX7_init_57 : decode cX7_init 57 = .ok (.newarray .int, 2) := by decide +kernel
theorem dX7_init_59 : decode cX7_init 59 = .ok (.putfield 29, 3) := by decide +kernel
theorem dX7_init_62 : decode cX7_init 62 = .ok (.aload_n 0, 1) := by decide +kernel
theorem dX7_init_63 : decode cX7_init 63 = .ok (.sipush 320, 3) := by decide +kernel
theorem dX7_init_66 : decode cX7_init 66 = .ok (.newarray .int, 2) := by decide +kernel
theorem dX7_init_68 : decode cX7_init 68 = .ok (.putfield 32, 3) := by decide +kernel
theorem dX7_init_71 : decode cX7_init 71 = .ok (.aload_n 0, 1) := by decide +kernel
theorem dX7_init_72 : decode cX7_init 72 = .ok (.getfield 7, 3) := by decide +kernel
theorem dX7_init_75 : decode cX7_init 75 = .ok (.iconst 0, 1) := by decide +kernel
theorem dX7_init_76 : decode cX7_init 76 = .ok (.iconst 2, 1) := by decide +kernel
theorem dX7_init_77 : decode cX7_init 77 = .ok (.iastore, 1) := by decide +kernel
theorem dX7_init_78 : decode cX7_init 78 = .ok (.aload_n 0, 1) := by decide +kernel
theorem dX7_init_79 : decode cX7_init 79 = .ok (.getfield 7, 3) := by decide +kernel
theorem dX7_init_82 : decode cX7_init 82 = .ok (.iconst 1, 1) := by decide +kernel
theorem dX7_init_83 : decode cX7_init 83 = .ok (.iconst 1, 1) := by decide +kernel
theorem dX7_init_84 : decode cX7_init 84 = .ok (.iastore, 1) := by decide +kernel
theorem dX7_init_85 : decode cX7_init 85 = .ok (.aload_n 0, 1) := by decide +kernel
theorem dX7_init_86 : decode cX7_init 86 = .ok (.getfield 7, 3) := by decide +kernel
theorem dX7_init_89 : decode cX7_init 89 = .ok (.iconst 3, 1) := by decide +kernel
theorem dX7_init_90 : decode cX7_init 90 = .ok (.iconst 4, 1) := by decide +kernel
theorem dX7_init_91 : decode cX7_init 91 = .ok (.iastore, 1) := by decide +kernel
theorem dX7_init_92 : decode cX7_init 92 = .ok (.iconst 0, 1) := by decide +kernel
theorem dX7_init_93 : decode cX7_init 93 = .ok (.istore_n 1, 1) := by decide +kernel
theorem dX7_init_94 : decode cX7_init 94 = .ok (.iload_n 1, 1) := by decide +kernel
theorem dX7_init_95 : decode cX7_init 95 = .ok (.iconst 5, 1) := by decide +kernel
theorem dX7_init_96 : decode cX7_init 96 = .ok (.if_icmp .ge 29, 3) := by decide +kernel
theorem dX7_init_99 : decode cX7_init 99 = .ok (.aload_n 0, 1) := by decide +kernel
theorem dX7_init_100 : decode cX7_init 100 = .ok (.getfield 7, 3) := by decide +kernel
theorem dX7_init_103 : decode cX7_init 103 = .ok (.iconst 4, 1) := by decide +kernel
theorem dX7_init_104 : decode cX7_init 104 = .ok (.iload_n 1, 1) := by decide +kernel
theorem dX7_init_105 : decode cX7_init 105 = .ok (.iadd, 1) := by decide +kernel
theorem dX7_init_106 : decode cX7_init 106 = .ok (.iconst 1, 1) := by decide +kernel
theorem dX7_init_107 : decode cX7_init 107 = .ok (.iastore, 1) := by decide +kernel
theorem dX7_init_108 : decode cX7_init 108 = .ok (.aload_n 0, 1) := by decide +kernel
theorem dX7_init_109 : decode cX7_init 109 = .ok (.getfield 7, 3) := by decide +kernel
theorem dX7_init_112 : decode cX7_init 112 = .ok (.bipush 9, 2) := by decide +kernel
theorem dX7_init_114 : decode cX7_init 114 = .ok (.iload_n 1, 1) := by decide +kernel
theorem dX7_init_115 : decode cX7_init 115 = .ok (.iadd, 1) := by decide +kernel
theorem dX7_init_116 : decode cX7_init 116 = .ok (.bipush 60, 2) := by decide +kernel
theorem dX7_init_118 : decode cX7_init 118 = .ok (.iastore, 1) := by decide +kernel
theorem dX7_init_119 : decode cX7_init 119 = .ok (.iinc 1 1, 3) := by decide +kernel
theorem dX7_init_122 : decode cX7_init 122 = .ok (.goto (-28), 3) := by decide +kernel
theorem dX7_init_125 : decode cX7_init 125 = .ok (.return_, 1) := by decide +kernel
theorem dX7_in_0 : decode cX7_in 0 = .ok (.iload_n 0, 1) := by decide +kernel
theorem dX7_in_1 : decode cX7_in 1 = .ok (.iload_n 1, 1) := by decide +kernel
theorem dX7_in_2 : decode cX7_in 2 = .ok (.if_icmp .lt 12, 3) := by decide +kernel
theorem dX7_in_5 : decode cX7_in 5 = .ok (.iload_n 0, 1) := by decide +kernel
theorem dX7_in_6 : decode cX7_in 6 = .ok (.iload_n 2, 1) := by decide +kernel
theorem dX7_in_7 : decode cX7_in 7 = .ok (.if_icmp .gt 7, 3) := by decide +kernel
theorem dX7_in_10 : decode cX7_in 10 = .ok (.iconst 1, 1) := by decide +kernel
theorem dX7_in_11 : decode cX7_in 11 = .ok (.goto 4, 3) := by decide +kernel
theorem dX7_in_14 : decode cX7_in 14 = .ok (.iconst 0, 1) := by decide +kernel
theorem dX7_in_15 : decode cX7_in 15 = .ok (.ireturn, 1) := by decide +kernel
theorem dX7_record_0 : decode cX7_record 0 = .ok (.aload_n 0, 1) := by decide +kernel
theorem dX7_record_1 : decode cX7_record 1 = .ok (.getfield 35, 3) := by decide +kernel
theorem dX7_record_4 : decode cX7_record 4 = .ok (.ifCond .eq 4, 3) := by decide +kernel
theorem dX7_record_7 : decode cX7_record 7 = .ok (.return_, 1) := by decide +kernel
theorem dX7_record_8 : decode cX7_record 8 = .ok (.aload_n 0, 1) := by decide +kernel
theorem dX7_record_9 : decode cX7_record 9 = .ok (.getfield 39, 3) := by decide +kernel
theorem dX7_record_12 : decode cX7_record 12 = .ok (.bipush 6, 2) := by decide +kernel
theorem dX7_record_14 : decode cX7_record 14 = .ok (.if_icmp .ne 39, 3) := by decide +kernel
theorem dX7_record_17 : decode cX7_record 17 = .ok (.iconst 0, 1) := by decide +kernel
theorem dX7_record_18 : decode cX7_record 18 = .ok (.istore_n 1, 1) := by decide +kernel
theorem dX7_record_19 : decode cX7_record 19 = .ok (.iload_n 1, 1) := by decide +kernel
theorem dX7_record_20 : decode cX7_record 20 = .ok (.sipush 2350, 3) := by decide +kernel
theorem dX7_record_23 : decode cX7_record 23 = .ok (.if_icmp .ge 25, 3) := by decide +kernel
theorem dX7_record_26 : decode cX7_record 26 = .ok (.aload_n 0, 1) := by decide +kernel
theorem dX7_record_27 : decode cX7_record 27 = .ok (.getfield 16, 3) := by decide +kernel
theorem dX7_record_30 : decode cX7_record 30 = .ok (.iload_n 1, 1) := by decide +kernel
theorem dX7_record_31 : decode cX7_record 31 = .ok (.aload_n 0, 1) := by decide +kernel
theorem dX7_record_32 : decode cX7_record 32 = .ok (.getfield 16, 3) := by decide +kernel
theorem dX7_record_35 : decode cX7_record 35 = .ok (.iload_n 1, 1) := by decide +kernel
theorem dX7_record_36 : decode cX7_record 36 = .ok (.sipush 470, 3) := by decide +kernel
theorem dX7_record_39 : decode cX7_record 39 = .ok (.iadd, 1) := by decide +kernel
theorem dX7_record_40 : decode cX7_record 40 = .ok (.iaload, 1) := by decide +kernel
theorem dX7_record_41 : decode cX7_record 41 = .ok (.iastore, 1) := by decide +kernel
theorem dX7_record_42 : decode cX7_record 42 = .ok (.iinc 1 1, 3) := by decide +kernel
theorem dX7_record_45 : decode cX7_record 45 = .ok (.goto (-26), 3) := by decide +kernel
theorem dX7_record_48 : decode cX7_record 48 = .ok (.aload_n 0, 1) := by decide +kernel
theorem dX7_record_49 : decode cX7_record 49 = .ok (.iconst 5, 1) := by decide +kernel
theorem dX7_record_50 : decode cX7_record 50 = .ok (.putfield 39, 3) := by decide +kernel
theorem dX7_record_53 : decode cX7_record 53 = .ok (.iconst 0, 1) := by decide +kernel
theorem dX7_record_54 : decode cX7_record 54 = .ok (.istore_n 1, 1) := by decide +kernel
theorem dX7_record_55 : decode cX7_record 55 = .ok (.iload_n 1, 1) := by decide +kernel
theorem dX7_record_56 : decode cX7_record 56 = .ok (.sipush 470, 3) := by decide +kernel
theorem dX7_record_59 : decode cX7_record 59 = .ok (.if_icmp .ge 30, 3) := by decide +kernel
theorem dX7_record_62 : decode cX7_record 62 = .ok (.aload_n 0, 1) := by decide +kernel
theorem dX7_record_63 : decode cX7_record 63 = .ok (.getfield 16, 3) := by decide +kernel
theorem dX7_record_66 : decode cX7_record 66 = .ok (.aload_n 0, 1) := by decide +kernel
theorem dX7_record_67 : decode cX7_record 67 = .ok (.getfield 39, 3) := by decide +kernel
theorem dX7_record_70 : decode cX7_record 70 = .ok (.sipush 470, 3) := by decide +kernel
theorem dX7_record_73 : decode cX7_record 73 = .ok (.imul, 1) := by decide +kernel
theorem dX7_record_74 : decode cX7_record 74 = .ok (.iload_n 1, 1) := by decide +kernel
theorem dX7_record_75 : decode cX7_record 75 = .ok (.iadd, 1) := by decide +kernel
theorem dX7_record_76 : decode cX7_record 76 = .ok (.aload_n 0, 1) := by decide +kernel
theorem dX7_record_77 : decode cX7_record 77 = .ok (.getfield 7, 3) := by decide +kernel
theorem dX7_record_80 : decode cX7_record 80 = .ok (.iload_n 1, 1) := by decide +kernel
theorem dX7_record_81 : decode cX7_record 81 = .ok (.iaload, 1) := by decide +kernel
theorem dX7_record_82 : decode cX7_record 82 = .ok (.iastore, 1) := by decide +kernel
theorem dX7_record_83 : decode cX7_record 83 = .ok (.iinc 1 1, 3) := by decide +kernel
theorem dX7_record_86 : decode cX7_record 86 = .ok (.goto (-31), 3) := by decide +kernel
theorem dX7_record_89 : decode cX7_record 89 = .ok (.aload_n 0, 1) := by decide +kernel
theorem dX7_record_90 : decode cX7_record 90 = .ok (.dup, 1) := by decide +kernel
theorem dX7_record_91 : decode cX7_record 91 = .ok (.getfield 39, 3) := by decide +kernel
theorem dX7_record_94 : decode cX7_record 94 = .ok (.iconst 1, 1) := by decide +kernel
theorem dX7_record_95 : decode cX7_record 95 = .ok (.iadd, 1) := by decide +kernel
theorem dX7_record_96 : decode cX7_record 96 = .ok (.putfield 39, 3) := by decide +kernel
theorem dX7_record_99 : decode cX7_record 99 = .ok (.return_, 1) := by decide +kernel
theorem dX7_set_0 : decode cX7_set 0 = .ok (.iload_n 1, 1) := by decide +kernel
theorem dX7_set_1 : decode cX7_set 1 = .ok (.iconst 0, 1) := by decide +kernel
theorem dX7_set_2 : decode cX7_set 2 = .ok (.iconst 1, 1) := by decide +kernel
theorem dX7_set_3 : decode cX7_set 3 = .ok (.invokestatic 43, 3) := by decide +kernel
theorem dX7_set_6 : decode cX7_set 6 = .ok (.ifCond .eq 29, 3) := by decide +kernel
theorem dX7_set_9 : decode cX7_set 9 = .ok (.iload_n 2, 1) := by decide +kernel
theorem dX7_set_10 : decode cX7_set 10 = .ok (.iload_n 1, 1) := by decide +kernel
theorem dX7_set_11 : decode cX7_set 11 = .ok (.ifCond .ne 7, 3) := by decide +kernel
theorem dX7_set_14 : decode cX7_set 14 = .ok (.iconst 1, 1) := by decide +kernel
theorem dX7_set_15 : decode cX7_set 15 = .ok (.goto 4, 3) := by decide +kernel
theorem dX7_set_18 : decode cX7_set 18 = .ok (.iconst 0, 1) := by decide +kernel
theorem dX7_set_19 : decode cX7_set 19 = .ok (.iload_n 1, 1) := by decide +kernel
theorem dX7_set_20 : decode cX7_set 20 = .ok (.ifCond .ne 8, 3) := by decide +kernel
theorem dX7_set_23 : decode cX7_set 23 = .ok (.bipush 9, 2) := by decide +kernel
theorem dX7_set_25 : decode cX7_set 25 = .ok (.goto 4, 3) := by decide +kernel
theorem dX7_set_28 : decode cX7_set 28 = .ok (.iconst 5, 1) := by decide +kernel
theorem dX7_set_29 : decode cX7_set 29 = .ok (.invokestatic 43, 3) := by decide +kernel
theorem dX7_set_32 : decode cX7_set 32 = .ok (.ifCond .ne 6, 3) := by decide +kernel
theorem dX7_set_35 : decode cX7_set 35 = .ok (.bipush (-2), 2) := by decide +kernel
theorem dX7_set_37 : decode cX7_set 37 = .ok (.ireturn, 1) := by decide +kernel
theorem dX7_set_38 : decode cX7_set 38 = .ok (.aload_n 0, 1) := by decide +kernel
theorem dX7_set_39 : decode cX7_set 39 = .ok (.invokevirtual 47, 3) := by decide +kernel
theorem dX7_set_42 : decode cX7_set 42 = .ok (.aload_n 0, 1) := by decide +kernel
theorem dX7_set_43 : decode cX7_set 43 = .ok (.getfield 7, 3) := by decide +kernel
theorem dX7_set_46 : decode cX7_set 46 = .ok (.iload_n 1, 1) := by decide +kernel
theorem dX7_set_47 : decode cX7_set 47 = .ok (.iaload, 1) := by decide +kernel
theorem dX7_set_48 : decode cX7_set 48 = .ok (.istore_n 3, 1) := by decide +kernel
theorem dX7_set_49 : decode cX7_set 49 = .ok (.aload_n 0, 1) := by decide +kernel
theorem dX7_set_50 : decode cX7_set 50 = .ok (.getfield 7, 3) := by decide +kernel
theorem dX7_set_53 : decode cX7_set 53 = .ok (.iload_n 1, 1) := by decide +kernel
theorem dX7_set_54 : decode cX7_set 54 = .ok (.iload_n 2, 1) := by decide +kernel
theorem dX7_set_55 : decode cX7_set 55 = .ok (.iastore, 1) := by decide +kernel
theorem dX7_set_56 : decode cX7_set 56 = .ok (.iload_n 3, 1) := by decide +kernel
theorem dX7_set_57 : decode cX7_set 57 = .ok (.ireturn, 1) := by decide +kernel
theorem dX7_isSheet_0 : decode cX7_isSheet 0 = .ok (.iload_n 0, 1) := by decide +kernel
theorem dX7_isSheet_1 : decode cX7_isSheet 1 = .ok (.iconst 0, 1) := by decide +kernel
theorem dX7_isSheet_2 : decode cX7_isSheet 2 = .ok (.iconst 4, 1) := by decide +kernel
theorem dX7_isSheet_3 : decode cX7_isSheet 3 = .ok (.invokestatic 43, 3) := by decide +kernel
theorem dX7_isSheet_6 : decode cX7_isSheet 6 = .ok (.ireturn, 1) := by decide +kernel
theorem dX7_isField_0 : decode cX7_isField 0 = .ok (.iload_n 0, 1) := by decide +kernel
theorem dX7_isField_1 : decode cX7_isField 1 = .ok (.iconst 0, 1) := by decide +kernel
theorem dX7_isField_2 : decode cX7_isField 2 = .ok (.bipush 9, 2) := by decide +kernel
theorem dX7_isField_4 : decode cX7_isField 4 = .ok (.invokestatic 43, 3) := by decide +kernel
theorem dX7_isField_7 : decode cX7_isField 7 = .ok (.ireturn, 1) := by decide +kernel
theorem dX7_isInStack_0 : decode cX7_isInStack 0 = .ok (.iload_n 1, 1) := by decide +kernel
theorem dX7_isInStack_1 : decode cX7_isInStack 1 = .ok (.aload_n 0, 1) := by decide +kernel
theorem dX7_isInStack_2 : decode cX7_isInStack 2 = .ok (.getfield 7, 3) := by decide +kernel
theorem dX7_isInStack_5 : decode cX7_isInStack 5 = .ok (.iconst 2, 1) := by decide +kernel
theorem dX7_isInStack_6 : decode cX7_isInStack 6 = .ok (.iaload, 1) := by decide +kernel
theorem dX7_isInStack_7 : decode cX7_isInStack 7 = .ok (.aload_n 0, 1) := by decide +kernel
theorem dX7_isInStack_8 : decode cX7_isInStack 8 = .ok (.getfield 7, 3) := by decide +kernel
theorem dX7_isInStack_11 : decode cX7_isInStack 11 = .ok (.iconst 3, 1) := by decide +kernel
theorem dX7_isInStack_12 : decode cX7_isInStack 12 = .ok (.iaload, 1) := by decide +kernel
theorem dX7_isInStack_13 : decode cX7_isInStack 13 = .ok (.invokestatic 43, 3) := by decide +kernel
theorem dX7_isInStack_16 : decode cX7_isInStack 16 = .ok (.ireturn, 1) := by decide +kernel
theorem dX7_hasStack_0 : decode cX7_hasStack 0 = .ok (.aload_n 0, 1) := by decide +kernel
theorem dX7_hasStack_1 : decode cX7_hasStack 1 = .ok (.getfield 7, 3) := by decide +kernel
theorem dX7_hasStack_4 : decode cX7_hasStack 4 = .ok (.iconst 2, 1) := by decide +kernel
theorem dX7_hasStack_5 : decode cX7_hasStack 5 = .ok (.iaload, 1) := by decide +kernel
theorem dX7_hasStack_6 : decode cX7_hasStack 6 = .ok (.aload_n 0, 1) := by decide +kernel
theorem dX7_hasStack_7 : decode cX7_hasStack 7 = .ok (.getfield 7, 3) := by decide +kernel
theorem dX7_hasStack_10 : decode cX7_hasStack 10 = .ok (.iconst 3, 1) := by decide +kernel
theorem dX7_hasStack_11 : decode cX7_hasStack 11 = .ok (.iaload, 1) := by decide +kernel
theorem dX7_hasStack_12 : decode cX7_hasStack 12 = .ok (.if_icmp .gt 7, 3) := by decide +kernel
theorem dX7_hasStack_15 : decode cX7_hasStack 15 = .ok (.iconst 1, 1) := by decide +kernel
theorem dX7_hasStack_16 : decode cX7_hasStack 16 = .ok (.goto 4, 3) := by decide +kernel
theorem dX7_hasStack_19 : decode cX7_hasStack 19 = .ok (.iconst 0, 1) := by decide +kernel
theorem dX7_hasStack_20 : decode cX7_hasStack 20 = .ok (.ireturn, 1) := by decide +kernel
theorem dX7_thickness_0 : decode cX7_thickness 0 = .ok (.iload_n 1, 1) := by decide +kernel
theorem dX7_thickness_1 : decode cX7_thickness 1 = .ok (.invokestatic 50, 3) := by decide +kernel
theorem dX7_thickness_4 : decode cX7_thickness 4 = .ok (.ifCond .ne 5, 3) := by decide +kernel
theorem dX7_thickness_7 : decode cX7_thickness 7 = .ok (.iconst (-1), 1) := by decide +kernel
theorem dX7_thickness_8 : decode cX7_thickness 8 = .ok (.ireturn, 1) := by decide +kernel
theorem dX7_thickness_9 : decode cX7_thickness 9 = .ok (.iload_n 2, 1) := by decide +kernel
theorem dX7_thickness_10 : decode cX7_thickness 10 = .ok (.iconst 0, 1) := by decide +kernel
theorem dX7_thickness_11 : decode cX7_thickness 11 = .ok (.iconst 4, 1) := by decide +kernel
theorem dX7_thickness_12 : decode cX7_thickness 12 = .ok (.invokestatic 43, 3) := by decide +kernel
theorem dX7_thickness_15 : decode cX7_thickness 15 = .ok (.ifCond .ne 6, 3) := by decide +kernel
theorem dX7_thickness_18 : decode cX7_thickness 18 = .ok (.bipush (-2), 2) := by decide +kernel
theorem dX7_thickness_20 : decode cX7_thickness 20 = .ok (.ireturn, 1) := by decide +kernel
theorem dX7_thickness_21 : decode cX7_thickness 21 = .ok (.aload_n 0, 1) := by decide +kernel
theorem dX7_thickness_22 : decode cX7_thickness 22 = .ok (.invokevirtual 47, 3) := by decide +kernel
theorem dX7_thickness_25 : decode cX7_thickness 25 = .ok (.aload_n 0, 1) := by decide +kernel
theorem dX7_thickness_26 : decode cX7_thickness 26 = .ok (.getfield 7, 3) := by decide +kernel
theorem dX7_thickness_29 : decode cX7_thickness 29 = .ok (.iconst 4, 1) := by decide +kernel
theorem dX7_thickness_30 : decode cX7_thickness 30 = .ok (.iload_n 1, 1) := by decide +kernel
theorem dX7_thickness_31 : decode cX7_thickness 31 = .ok (.iadd, 1) := by decide +kernel
theorem dX7_thickness_32 : decode cX7_thickness 32 = .ok (.iaload, 1) := by decide +kernel
theorem dX7_thickness_33 : decode cX7_thickness 33 = .ok (.istore_n 3, 1) := by decide +kernel
theorem dX7_thickness_34 : decode cX7_thickness 34 = .ok (.aload_n 0, 1) := by decide +kernel
theorem dX7_thickness_35 : decode cX7_thickness 35 = .ok (.getfield 7, 3) := by decide +kernel
theorem dX7_thickness_38 : decode cX7_thickness 38 = .ok (.iconst 4, 1) := by decide +kernel
theorem dX7_thickness_39 : decode cX7_thickness 39 = .ok (.iload_n 1, 1) := by decide +kernel
theorem dX7_thickness_40 : decode cX7_thickness 40 = .ok (.iadd, 1) := by decide +kernel
theorem dX7_thickness_41 : decode cX7_thickness 41 = .ok (.iload_n 2, 1) := by decide +kernel
theorem dX7_thickness_42 : decode cX7_thickness 42 = .ok (.iastore, 1) := by decide +kernel
theorem dX7_thickness_43 : decode cX7_thickness 43 = .ok (.iload_n 3, 1) := by decide +kernel
theorem dX7_thickness_44 : decode cX7_thickness 44 = .ok (.ireturn, 1) := by decide +kernel
theorem dX7_carbon_0 : decode cX7_carbon 0 = .ok (.iload_n 1, 1) := by decide +kernel
theorem dX7_carbon_1 : decode cX7_carbon 1 = .ok (.invokestatic 50, 3) := by decide +kernel
theorem dX7_carbon_4 : decode cX7_carbon 4 = .ok (.ifCond .ne 5, 3) := by decide +kernel
theorem dX7_carbon_7 : decode cX7_carbon 7 = .ok (.iconst (-1), 1) := by decide +kernel
theorem dX7_carbon_8 : decode cX7_carbon 8 = .ok (.ireturn, 1) := by decide +kernel
theorem dX7_carbon_9 : decode cX7_carbon 9 = .ok (.iload_n 2, 1) := by decide +kernel
theorem dX7_carbon_10 : decode cX7_carbon 10 = .ok (.iconst 0, 1) := by decide +kernel
theorem dX7_carbon_11 : decode cX7_carbon 11 = .ok (.sipush 300, 3) := by decide +kernel
theorem dX7_carbon_14 : decode cX7_carbon 14 = .ok (.invokestatic 43, 3) := by decide +kernel
theorem dX7_carbon_17 : decode cX7_carbon 17 = .ok (.ifCond .ne 6, 3) := by decide +kernel
theorem dX7_carbon_20 : decode cX7_carbon 20 = .ok (.bipush (-2), 2) := by decide +kernel
theorem dX7_carbon_22 : decode cX7_carbon 22 = .ok (.ireturn, 1) := by decide +kernel
theorem dX7_carbon_23 : decode cX7_carbon 23 = .ok (.aload_n 0, 1) := by decide +kernel
theorem dX7_carbon_24 : decode cX7_carbon 24 = .ok (.iload_n 1, 1) := by decide +kernel
theorem dX7_carbon_25 : decode cX7_carbon 25 = .ok (.invokevirtual 54, 3) := by decide +kernel
theorem dX7_carbon_28 : decode cX7_carbon 28 = .ok (.ifCond .ne 6, 3) := by decide +kernel
theorem dX7_carbon_31 : decode cX7_carbon 31 = .ok (.bipush (-5), 2) := by decide +kernel
theorem dX7_carbon_33 : decode cX7_carbon 33 = .ok (.ireturn, 1) := by decide +kernel
theorem dX7_carbon_34 : decode cX7_carbon 34 = .ok (.aload_n 0, 1) := by decide +kernel
theorem dX7_carbon_35 : decode cX7_carbon 35 = .ok (.invokevirtual 47, 3) := by decide +kernel
theorem dX7_carbon_38 : decode cX7_carbon 38 = .ok (.aload_n 0, 1) := by decide +kernel
theorem dX7_carbon_39 : decode cX7_carbon 39 = .ok (.getfield 7, 3) := by decide +kernel
theorem dX7_carbon_42 : decode cX7_carbon 42 = .ok (.bipush 9, 2) := by decide +kernel
theorem dX7_carbon_44 : decode cX7_carbon 44 = .ok (.iload_n 1, 1) := by decide +kernel
theorem dX7_carbon_45 : decode cX7_carbon 45 = .ok (.iadd, 1) := by decide +kernel
theorem dX7_carbon_46 : decode cX7_carbon 46 = .ok (.iaload, 1) := by decide +kernel
theorem dX7_carbon_47 : decode cX7_carbon 47 = .ok (.istore_n 3, 1) := by decide +kernel
theorem dX7_carbon_48 : decode cX7_carbon 48 = .ok (.aload_n 0, 1) := by decide +kernel
theorem dX7_carbon_49 : decode cX7_carbon 49 = .ok (.getfield 7, 3) := by decide +kernel
theorem dX7_carbon_52 : decode cX7_carbon 52 = .ok (.bipush 9, 2) := by decide +kernel
theorem dX7_carbon_54 : decode cX7_carbon 54 = .ok (.iload_n 1, 1) := by decide +kernel
theorem dX7_carbon_55 : decode cX7_carbon 55 = .ok (.iadd, 1) := by decide +kernel
theorem dX7_carbon_56 : decode cX7_carbon 56 = .ok (.iload_n 2, 1) := by decide +kernel
theorem dX7_carbon_57 : decode cX7_carbon 57 = .ok (.iastore, 1) := by decide +kernel
theorem dX7_carbon_58 : decode cX7_carbon 58 = .ok (.iload_n 3, 1) := by decide +kernel
theorem dX7_carbon_59 : decode cX7_carbon 59 = .ok (.ireturn, 1) := by decide +kernel
theorem dX7_spot_0 : decode cX7_spot 0 = .ok (.bipush 10, 2) := by decide +kernel
theorem dX7_spot_2 : decode cX7_spot 2 = .ok (.iload_n 0, 1) := by decide +kernel
theorem dX7_spot_3 : decode cX7_spot 3 = .ok (.imul, 1) := by decide +kernel
theorem dX7_spot_4 : decode cX7_spot 4 = .ok (.iload_n 1, 1) := by decide +kernel
theorem dX7_spot_5 : decode cX7_spot 5 = .ok (.iadd, 1) := by decide +kernel
theorem dX7_spot_6 : decode cX7_spot 6 = .ok (.ireturn, 1) := by decide +kernel
theorem dX7_many_0 : decode cX7_many 0 = .ok (.aload_n 0, 1) := by decide +kernel
theorem dX7_many_1 : decode cX7_many 1 = .ok (.getfield 7, 3) := by decide +kernel
theorem dX7_many_4 : decode cX7_many 4 = .ok (.bipush 20, 2) := by decide +kernel
theorem dX7_many_6 : decode cX7_many 6 = .ok (.iload_n 1, 1) := by decide +kernel
theorem dX7_many_7 : decode cX7_many 7 = .ok (.iload_n 2, 1) := by decide +kernel
theorem dX7_many_8 : decode cX7_many 8 = .ok (.invokestatic 57, 3) := by decide +kernel
theorem dX7_many_11 : decode cX7_many 11 = .ok (.iadd, 1) := by decide +kernel
theorem dX7_many_12 : decode cX7_many 12 = .ok (.iaload, 1) := by decide +kernel
theorem dX7_many_13 : decode cX7_many 13 = .ok (.ireturn, 1) := by decide +kernel
theorem dX7_markAt_0 : decode cX7_markAt 0 = .ok (.aload_n 0, 1) := by decide +kernel
theorem dX7_markAt_1 : decode cX7_markAt 1 = .ok (.getfield 7, 3) := by decide +kernel
theorem dX7_markAt_4 : decode cX7_markAt 4 = .ok (.bipush 70, 2) := by decide +kernel
theorem dX7_markAt_6 : decode cX7_markAt 6 = .ok (.bipush 8, 2) := by decide +kernel
theorem dX7_markAt_8 : decode cX7_markAt 8 = .ok (.iload_n 1, 1) := by decide +kernel
theorem dX7_markAt_9 : decode cX7_markAt 9 = .ok (.iload_n 2, 1) := by decide +kernel
theorem dX7_markAt_10 : decode cX7_markAt 10 = .ok (.invokestatic 57, 3) := by decide +kernel
theorem dX7_markAt_13 : decode cX7_markAt 13 = .ok (.imul, 1) := by decide +kernel
theorem dX7_markAt_14 : decode cX7_markAt 14 = .ok (.iadd, 1) := by decide +kernel
theorem dX7_markAt_15 : decode cX7_markAt 15 = .ok (.iload_n 3, 1) := by decide +kernel
theorem dX7_markAt_16 : decode cX7_markAt 16 = .ok (.iadd, 1) := by decide +kernel
theorem dX7_markAt_17 : decode cX7_markAt 17 = .ok (.iaload, 1) := by decide +kernel
theorem dX7_markAt_18 : decode cX7_markAt 18 = .ok (.ireturn, 1) := by decide +kernel
theorem dX7_valueOf_0 : decode cX7_valueOf 0 = .ok (.iload_n 0, 1) := by decide +kernel
theorem dX7_valueOf_1 : decode cX7_valueOf 1 = .ok (.bipush 20, 2) := by decide +kernel
theorem dX7_valueOf_3 : decode cX7_valueOf 3 = .ok (.idiv, 1) := by decide +kernel
theorem dX7_valueOf_4 : decode cX7_valueOf 4 = .ok (.ireturn, 1) := by decide +kernel
theorem dX7_strengthOf_0 : decode cX7_strengthOf 0 = .ok (.iload_n 0, 1) := by decide +kernel
theorem dX7_strengthOf_1 : decode cX7_strengthOf 1 = .ok (.iconst 2, 1) := by decide +kernel
theorem dX7_strengthOf_2 : decode cX7_strengthOf 2 = .ok (.idiv, 1) := by decide +kernel
theorem dX7_strengthOf_3 : decode cX7_strengthOf 3 = .ok (.bipush 10, 2) := by decide +kernel
theorem dX7_strengthOf_5 : decode cX7_strengthOf 5 = .ok (.irem, 1) := by decide +kernel
theorem dX7_strengthOf_6 : decode cX7_strengthOf 6 = .ok (.ireturn, 1) := by decide +kernel
theorem dX7_isStruck_0 : decode cX7_isStruck 0 = .ok (.iload_n 0, 1) := by decide +kernel
theorem dX7_isStruck_1 : decode cX7_isStruck 1 = .ok (.iconst 2, 1) := by decide +kernel
theorem dX7_isStruck_2 : decode cX7_isStruck 2 = .ok (.irem, 1) := by decide +kernel
theorem dX7_isStruck_3 : decode cX7_isStruck 3 = .ok (.iconst 1, 1) := by decide +kernel
theorem dX7_isStruck_4 : decode cX7_isStruck 4 = .ok (.if_icmp .ne 7, 3) := by decide +kernel
theorem dX7_isStruck_7 : decode cX7_isStruck 7 = .ok (.iconst 1, 1) := by decide +kernel
theorem dX7_isStruck_8 : decode cX7_isStruck 8 = .ok (.goto 4, 3) := by decide +kernel
theorem dX7_isStruck_11 : decode cX7_isStruck 11 = .ok (.iconst 0, 1) := by decide +kernel
theorem dX7_isStruck_12 : decode cX7_isStruck 12 = .ok (.ireturn, 1) := by decide +kernel
theorem dX7_addMark_0 : decode cX7_addMark 0 = .ok (.aload_n 0, 1) := by decide +kernel
theorem dX7_addMark_1 : decode cX7_addMark 1 = .ok (.getfield 7, 3) := by decide +kernel
theorem dX7_addMark_4 : decode cX7_addMark 4 = .ok (.bipush 70, 2) := by decide +kernel
theorem dX7_addMark_6 : decode cX7_addMark 6 = .ok (.bipush 8, 2) := by decide +kernel
theorem dX7_addMark_8 : decode cX7_addMark 8 = .ok (.iload_n 1, 1) := by decide +kernel
theorem dX7_addMark_9 : decode cX7_addMark 9 = .ok (.iload_n 2, 1) := by decide +kernel
theorem dX7_addMark_10 : decode cX7_addMark 10 = .ok (.invokestatic 57, 3) := by decide +kernel
theorem dX7_addMark_13 : decode cX7_addMark 13 = .ok (.imul, 1) := by decide +kernel
theorem dX7_addMark_14 : decode cX7_addMark 14 = .ok (.iadd, 1) := by decide +kernel
theorem dX7_addMark_15 : decode cX7_addMark 15 = .ok (.aload_n 0, 1) := by decide +kernel
theorem dX7_addMark_16 : decode cX7_addMark 16 = .ok (.iload_n 1, 1) := by decide +kernel
theorem dX7_addMark_17 : decode cX7_addMark 17 = .ok (.iload_n 2, 1) := by decide +kernel
theorem dX7_addMark_18 : decode cX7_addMark 18 = .ok (.invokevirtual 61, 3) := by decide +kernel
theorem dX7_addMark_21 : decode cX7_addMark 21 = .ok (.iadd, 1) := by decide +kernel
theorem dX7_addMark_22 : decode cX7_addMark 22 = .ok (.bipush 20, 2) := by decide +kernel
theorem dX7_addMark_24 : decode cX7_addMark 24 = .ok (.iload_n 3, 1) := by decide +kernel
theorem dX7_addMark_25 : decode cX7_addMark 25 = .ok (.imul, 1) := by decide +kernel
theorem dX7_addMark_26 : decode cX7_addMark 26 = .ok (.iconst 2, 1) := by decide +kernel
theorem dX7_addMark_27 : decode cX7_addMark 27 = .ok (.iload 4, 2) := by decide +kernel
theorem dX7_addMark_29 : decode cX7_addMark 29 = .ok (.imul, 1) := by decide +kernel
theorem dX7_addMark_30 : decode cX7_addMark 30 = .ok (.iadd, 1) := by decide +kernel
theorem dX7_addMark_31 : decode cX7_addMark 31 = .ok (.iastore, 1) := by decide +kernel
theorem dX7_addMark_32 : decode cX7_addMark 32 = .ok (.aload_n 0, 1) := by decide +kernel
theorem dX7_addMark_33 : decode cX7_addMark 33 = .ok (.getfield 7, 3) := by decide +kernel
theorem dX7_addMark_36 : decode cX7_addMark 36 = .ok (.bipush 20, 2) := by decide +kernel
theorem dX7_addMark_38 : decode cX7_addMark 38 = .ok (.iload_n 1, 1) := by decide +kernel
theorem dX7_addMark_39 : decode cX7_addMark 39 = .ok (.iload_n 2, 1) := by decide +kernel
theorem dX7_addMark_40 : decode cX7_addMark 40 = .ok (.invokestatic 57, 3) := by decide +kernel
theorem dX7_addMark_43 : decode cX7_addMark 43 = .ok (.iadd, 1) := by decide +kernel
theorem dX7_addMark_44 : decode cX7_addMark 44 = .ok (.dup2, 1) := by decide +kernel
theorem dX7_addMark_45 : decode cX7_addMark 45 = .ok (.iaload, 1) := by decide +kernel
theorem dX7_addMark_46 : decode cX7_addMark 46 = .ok (.iconst 1, 1) := by decide +kernel
theorem dX7_addMark_47 : decode cX7_addMark 47 = .ok (.iadd, 1) := by decide +kernel
theorem dX7_addMark_48 : decode cX7_addMark 48 = .ok (.iastore, 1) := by decide +kernel
theorem dX7_addMark_49 : decode cX7_addMark 49 = .ok (.return_, 1) := by decide +kernel
theorem dX7_strikeAt_0 : decode cX7_strikeAt 0 = .ok (.iconst 0, 1) := by decide +kernel
theorem dX7_strikeAt_1 : decode cX7_strikeAt 1 = .ok (.istore 4, 2) := by decide +kernel
theorem dX7_strikeAt_3 : decode cX7_strikeAt 3 = .ok (.iconst 0, 1) := by decide +kernel
theorem dX7_strikeAt_4 : decode cX7_strikeAt 4 = .ok (.istore 5, 2) := by decide +kernel
theorem dX7_strikeAt_6 : decode cX7_strikeAt 6 = .ok (.iload 5, 2) := by decide +kernel
theorem dX7_strikeAt_8 : decode cX7_strikeAt 8 = .ok (.aload_n 0, 1) := by decide +kernel
theorem dX7_strikeAt_9 : decode cX7_strikeAt 9 = .ok (.iload_n 1, 1) := by decide +kernel
theorem dX7_strikeAt_10 : decode cX7_strikeAt 10 = .ok (.iload_n 2, 1) := by decide +kernel
theorem dX7_strikeAt_11 : decode cX7_strikeAt 11 = .ok (.invokevirtual 61, 3) := by decide +kernel
theorem dX7_strikeAt_14 : decode cX7_strikeAt 14 = .ok (.if_icmp .ge 62, 3) := by decide +kernel
theorem dX7_strikeAt_17 : decode cX7_strikeAt 17 = .ok (.aload_n 0, 1) := by decide +kernel
theorem dX7_strikeAt_18 : decode cX7_strikeAt 18 = .ok (.iload_n 1, 1) := by decide +kernel
theorem dX7_strikeAt_19 : decode cX7_strikeAt 19 = .ok (.iload_n 2, 1) := by decide +kernel
theorem dX7_strikeAt_20 : decode cX7_strikeAt 20 = .ok (.iload 5, 2) := by decide +kernel
theorem dX7_strikeAt_22 : decode cX7_strikeAt 22 = .ok (.invokevirtual 64, 3) := by decide +kernel
theorem dX7_strikeAt_25 : decode cX7_strikeAt 25 = .ok (.istore 6, 2) := by decide +kernel
theorem dX7_strikeAt_27 : decode cX7_strikeAt 27 = .ok (.iload 6, 2) := by decide +kernel
theorem dX7_strikeAt_29 : decode cX7_strikeAt 29 = .ok (.invokestatic 68, 3) := by decide +kernel
theorem dX7_strikeAt_32 : decode cX7_strikeAt 32 = .ok (.ifCond .ne 38, 3) := by decide +kernel
theorem dX7_strikeAt_35 : decode cX7_strikeAt 35 = .ok (.iload 6, 2) := by decide +kernel
theorem dX7_strikeAt_37 : decode cX7_strikeAt 37 = .ok (.invokestatic 71, 3) := by decide +kernel
theorem dX7_strikeAt_40 : decode cX7_strikeAt 40 = .ok (.iload_n 3, 1) := by decide +kernel
theorem dX7_strikeAt_41 : decode cX7_strikeAt 41 = .ok (.if_icmp .gt 29, 3) := by decide +kernel
theorem dX7_strikeAt_44 : decode cX7_strikeAt 44 = .ok (.aload_n 0, 1) := by decide +kernel
theorem dX7_strikeAt_45 : decode cX7_strikeAt 45 = .ok (.getfield 7, 3) := by decide +kernel
theorem dX7_strikeAt_48 : decode cX7_strikeAt 48 = .ok (.bipush 70, 2) := by decide +kernel
theorem dX7_strikeAt_50 : decode cX7_strikeAt 50 = .ok (.bipush 8, 2) := by decide +kernel
theorem dX7_strikeAt_52 : decode cX7_strikeAt 52 = .ok (.iload_n 1, 1) := by decide +kernel
theorem dX7_strikeAt_53 : decode cX7_strikeAt 53 = .ok (.iload_n 2, 1) := by decide +kernel
theorem dX7_strikeAt_54 : decode cX7_strikeAt 54 = .ok (.invokestatic 57, 3) := by decide +kernel
theorem dX7_strikeAt_57 : decode cX7_strikeAt 57 = .ok (.imul, 1) := by decide +kernel
theorem dX7_strikeAt_58 : decode cX7_strikeAt 58 = .ok (.iadd, 1) := by decide +kernel
theorem dX7_strikeAt_59 : decode cX7_strikeAt 59 = .ok (.iload 5, 2) := by decide +kernel
theorem dX7_strikeAt_61 : decode cX7_strikeAt 61 = .ok (.iadd, 1) := by decide +kernel
theorem dX7_strikeAt_62 : decode cX7_strikeAt 62 = .ok (.dup2, 1) := by decide +kernel
theorem dX7_strikeAt_63 : decode cX7_strikeAt 63 = .ok (.iaload, 1) := by decide +kernel
theorem dX7_strikeAt_64 : decode cX7_strikeAt 64 = .ok (.iconst 1, 1) := by decide +kernel
theorem dX7_strikeAt_65 : decode cX7_strikeAt 65 = .ok (.iadd, 1) := by decide +kernel
theorem dX7_strikeAt_66 : decode cX7_strikeAt 66 = .ok (.iastore, 1) := by decide +kernel
theorem dX7_strikeAt_67 : decode cX7_strikeAt 67 = .ok (.iinc 4 1, 3) := by decide +kernel
theorem dX7_strikeAt_70 : decode cX7_strikeAt 70 = .ok (.iinc 5 1, 3) := by decide +kernel
theorem dX7_strikeAt_73 : decode cX7_strikeAt 73 = .ok (.goto (-67), 3) := by decide +kernel
theorem dX7_strikeAt_76 : decode cX7_strikeAt 76 = .ok (.iload 4, 2) := by decide +kernel
theorem dX7_strikeAt_78 : decode cX7_strikeAt 78 = .ok (.ireturn, 1) := by decide +kernel
theorem dX7_layPress_0 : decode cX7_layPress 0 = .ok (.iconst 0, 1) := by decide +kernel
theorem dX7_layPress_1 : decode cX7_layPress 1 = .ok (.istore_n 2, 1) := by decide +kernel
theorem dX7_layPress_2 : decode cX7_layPress 2 = .ok (.iload_n 1, 1) := by decide +kernel
theorem dX7_layPress_3 : decode cX7_layPress 3 = .ok (.istore_n 3, 1) := by decide +kernel
theorem dX7_layPress_4 : decode cX7_layPress 4 = .ok (.iconst 0, 1) := by decide +kernel
theorem dX7_layPress_5 : decode cX7_layPress 5 = .ok (.istore 4, 2) := by decide +kernel
theorem dX7_layPress_7 : decode cX7_layPress 7 = .ok (.iload 4, 2) := by decide +kernel
theorem dX7_layPress_9 : decode cX7_layPress 9 = .ok (.iconst 5, 1) := by decide +kernel
theorem dX7_layPress_10 : decode cX7_layPress 10 = .ok (.if_icmp .ge 17, 3) := by decide +kernel
theorem dX7_layPress_13 : decode cX7_layPress 13 = .ok (.aload_n 0, 1) := by decide +kernel
theorem dX7_layPress_14 : decode cX7_layPress 14 = .ok (.getfield 29, 3) := by decide +kernel
theorem dX7_layPress_17 : decode cX7_layPress 17 = .ok (.iload 4, 2) := by decide +kernel
theorem dX7_layPress_19 : decode cX7_layPress 19 = .ok (.iconst 0, 1) := by decide +kernel
theorem dX7_layPress_20 : decode cX7_layPress 20 = .ok (.iastore, 1) := by decide +kernel
theorem dX7_layPress_21 : decode cX7_layPress 21 = .ok (.iinc 4 1, 3) := by decide +kernel
theorem dX7_layPress_24 : decode cX7_layPress 24 = .ok (.goto (-17), 3) := by decide +kernel
theorem dX7_layPress_27 : decode cX7_layPress 27 = .ok (.aload_n 0, 1) := by decide +kernel
theorem dX7_layPress_28 : decode cX7_layPress 28 = .ok (.getfield 7, 3) := by decide +kernel
theorem dX7_layPress_31 : decode cX7_layPress 31 = .ok (.iconst 2, 1) := by decide +kernel
theorem dX7_layPress_32 : decode cX7_layPress 32 = .ok (.iaload, 1) := by decide +kernel
theorem dX7_layPress_33 : decode cX7_layPress 33 = .ok (.istore 4, 2) := by decide +kernel
theorem dX7_layPress_35 : decode cX7_layPress 35 = .ok (.iload 4, 2) := by decide +kernel
theorem dX7_layPress_37 : decode cX7_layPress 37 = .ok (.aload_n 0, 1) := by decide +kernel
theorem dX7_layPress_38 : decode cX7_layPress 38 = .ok (.getfield 7, 3) := by decide +kernel
theorem dX7_layPress_41 : decode cX7_layPress 41 = .ok (.iconst 3, 1) := by decide +kernel
theorem dX7_layPress_42 : decode cX7_layPress 42 = .ok (.iaload, 1) := by decide +kernel
theorem dX7_layPress_43 : decode cX7_layPress 43 = .ok (.if_icmp .gt 53, 3) := by decide +kernel
theorem dX7_layPress_46 : decode cX7_layPress 46 = .ok (.iload_n 3, 1) := by decide +kernel
theorem dX7_layPress_47 : decode cX7_layPress 47 = .ok (.ifCond .le 49, 3) := by decide +kernel
theorem dX7_layPress_50 : decode cX7_layPress 50 = .ok (.aload_n 0, 1) := by decide +kernel
theorem dX7_layPress_51 : decode cX7_layPress 51 = .ok (.getfield 29, 3) := by decide +kernel
theorem dX7_layPress_54 : decode cX7_layPress 54 = .ok (.iload 4, 2) := by decide +kernel
theorem dX7_layPress_56 : decode cX7_layPress 56 = .ok (.iload_n 3, 1) := by decide +kernel
theorem dX7_layPress_57 : decode cX7_layPress 57 = .ok (.iastore, 1) := by decide +kernel
theorem dX7_layPress_58 : decode cX7_layPress 58 = .ok (.iinc 2 1, 3) := by decide +kernel
theorem dX7_layPress_61 : decode cX7_layPress 61 = .ok (.aload_n 0, 1) := by decide +kernel
theorem dX7_layPress_62 : decode cX7_layPress 62 = .ok (.getfield 7, 3) := by decide +kernel
theorem dX7_layPress_65 : decode cX7_layPress 65 = .ok (.bipush 9, 2) := by decide +kernel
theorem dX7_layPress_67 : decode cX7_layPress 67 = .ok (.iload 4, 2) := by decide +kernel
theorem dX7_layPress_69 : decode cX7_layPress 69 = .ok (.iadd, 1) := by decide +kernel
theorem dX7_layPress_70 : decode cX7_layPress 70 = .ok (.iaload, 1) := by decide +kernel
theorem dX7_layPress_71 : decode cX7_layPress 71 = .ok (.ifCond .le 17, 3) := by decide +kernel
theorem dX7_layPress_74 : decode cX7_layPress 74 = .ok (.iload_n 3, 1) := by decide +kernel
theorem dX7_layPress_75 : decode cX7_layPress 75 = .ok (.aload_n 0, 1) := by decide +kernel
theorem dX7_layPress_76 : decode cX7_layPress 76 = .ok (.getfield 7, 3) := by decide +kernel
theorem dX7_layPress_79 : decode cX7_layPress 79 = .ok (.iconst 4, 1) := by decide +kernel
theorem dX7_layPress_80 : decode cX7_layPress 80 = .ok (.iload 4, 2) := by decide +kernel
theorem dX7_layPress_82 : decode cX7_layPress 82 = .ok (.iadd, 1) := by decide +kernel
theorem dX7_layPress_83 : decode cX7_layPress 83 = .ok (.iaload, 1) := by decide +kernel
theorem dX7_layPress_84 : decode cX7_layPress 84 = .ok (.isub, 1) := by decide +kernel
theorem dX7_layPress_85 : decode cX7_layPress 85 = .ok (.goto 4, 3) := by decide +kernel
theorem dX7_layPress_88 : decode cX7_layPress 88 = .ok (.iconst 0, 1) := by decide +kernel
theorem dX7_layPress_89 : decode cX7_layPress 89 = .ok (.istore_n 3, 1) := by decide +kernel
theorem dX7_layPress_90 : decode cX7_layPress 90 = .ok (.iinc 4 1, 3) := by decide +kernel
theorem dX7_layPress_93 : decode cX7_layPress 93 = .ok (.goto (-58), 3) := by decide +kernel
theorem dX7_layPress_96 : decode cX7_layPress 96 = .ok (.iload_n 2, 1) := by decide +kernel
theorem dX7_layPress_97 : decode cX7_layPress 97 = .ok (.ireturn, 1) := by decide +kernel
theorem dX7_usePress_0 : decode cX7_usePress 0 = .ok (.iconst 0, 1) := by decide +kernel
theorem dX7_usePress_1 : decode cX7_usePress 1 = .ok (.istore_n 2, 1) := by decide +kernel
theorem dX7_usePress_2 : decode cX7_usePress 2 = .ok (.iload_n 2, 1) := by decide +kernel
theorem dX7_usePress_3 : decode cX7_usePress 3 = .ok (.iload_n 1, 1) := by decide +kernel
theorem dX7_usePress_4 : decode cX7_usePress 4 = .ok (.iconst 1, 1) := by decide +kernel
theorem dX7_usePress_5 : decode cX7_usePress 5 = .ok (.isub, 1) := by decide +kernel
theorem dX7_usePress_6 : decode cX7_usePress 6 = .ok (.if_icmp .ge 29, 3) := by decide +kernel
theorem dX7_usePress_9 : decode cX7_usePress 9 = .ok (.aload_n 0, 1) := by decide +kernel
theorem dX7_usePress_10 : decode cX7_usePress 10 = .ok (.getfield 7, 3) := by decide +kernel
theorem dX7_usePress_13 : decode cX7_usePress 13 = .ok (.bipush 9, 2) := by decide +kernel
theorem dX7_usePress_15 : decode cX7_usePress 15 = .ok (.aload_n 0, 1) := by decide +kernel
theorem dX7_usePress_16 : decode cX7_usePress 16 = .ok (.getfield 7, 3) := by decide +kernel
theorem dX7_usePress_19 : decode cX7_usePress 19 = .ok (.iconst 2, 1) := by decide +kernel
theorem dX7_usePress_20 : decode cX7_usePress 20 = .ok (.iaload, 1) := by decide +kernel
theorem dX7_usePress_21 : decode cX7_usePress 21 = .ok (.iadd, 1) := by decide +kernel
theorem dX7_usePress_22 : decode cX7_usePress 22 = .ok (.iload_n 2, 1) := by decide +kernel
theorem dX7_usePress_23 : decode cX7_usePress 23 = .ok (.iadd, 1) := by decide +kernel
theorem dX7_usePress_24 : decode cX7_usePress 24 = .ok (.dup2, 1) := by decide +kernel
theorem dX7_usePress_25 : decode cX7_usePress 25 = .ok (.iaload, 1) := by decide +kernel
theorem dX7_usePress_26 : decode cX7_usePress 26 = .ok (.iconst 1, 1) := by decide +kernel
theorem dX7_usePress_27 : decode cX7_usePress 27 = .ok (.isub, 1) := by decide +kernel
theorem dX7_usePress_28 : decode cX7_usePress 28 = .ok (.iastore, 1) := by decide +kernel
theorem dX7_usePress_29 : decode cX7_usePress 29 = .ok (.iinc 2 1, 3) := by decide +kernel
theorem dX7_usePress_32 : decode cX7_usePress 32 = .ok (.goto (-30), 3) := by decide +kernel
theorem dX7_usePress_35 : decode cX7_usePress 35 = .ok (.return_, 1) := by decide +kernel
theorem dX7_barOf_0 : decode cX7_barOf 0 = .ok (.iload_n 1, 1) := by decide +kernel
theorem dX7_barOf_1 : decode cX7_barOf 1 = .ok (.invokestatic 75, 3) := by decide +kernel
theorem dX7_barOf_4 : decode cX7_barOf 4 = .ok (.ifCond .ne 5, 3) := by decide +kernel
theorem dX7_barOf_7 : decode cX7_barOf 7 = .ok (.iconst (-1), 1) := by decide +kernel
theorem dX7_barOf_8 : decode cX7_barOf 8 = .ok (.ireturn, 1) := by decide +kernel
theorem dX7_barOf_9 : decode cX7_barOf 9 = .ok (.iload_n 2, 1) := by decide +kernel
theorem dX7_barOf_10 : decode cX7_barOf 10 = .ok (.iconst 0, 1) := by decide +kernel
theorem dX7_barOf_11 : decode cX7_barOf 11 = .ok (.sipush 999, 3) := by decide +kernel
theorem dX7_barOf_14 : decode cX7_barOf 14 = .ok (.invokestatic 43, 3) := by decide +kernel
theorem dX7_barOf_17 : decode cX7_barOf 17 = .ok (.ifCond .eq 13, 3) := by decide +kernel
theorem dX7_barOf_20 : decode cX7_barOf 20 = .ok (.iload_n 3, 1) := by decide +kernel
theorem dX7_barOf_21 : decode cX7_barOf 21 = .ok (.iconst 1, 1) := by decide +kernel
theorem dX7_barOf_22 : decode cX7_barOf 22 = .ok (.bipush 9, 2) := by decide +kernel
theorem dX7_barOf_24 : decode cX7_barOf 24 = .ok (.invokestatic 43, 3) := by decide +kernel
theorem dX7_barOf_27 : decode cX7_barOf 27 = .ok (.ifCond .ne 6, 3) := by decide +kernel
theorem dX7_barOf_30 : decode cX7_barOf 30 = .ok (.bipush (-2), 2) := by decide +kernel
theorem dX7_barOf_32 : decode cX7_barOf 32 = .ok (.ireturn, 1) := by decide +kernel
theorem dX7_barOf_33 : decode cX7_barOf 33 = .ok (.aload_n 0, 1) := by decide +kernel
theorem dX7_barOf_34 : decode cX7_barOf 34 = .ok (.invokevirtual 78, 3) := by decide +kernel
theorem dX7_barOf_37 : decode cX7_barOf 37 = .ok (.ifCond .ne 6, 3) := by decide +kernel
theorem dX7_barOf_40 : decode cX7_barOf 40 = .ok (.bipush (-5), 2) := by decide +kernel
theorem dX7_barOf_42 : decode cX7_barOf 42 = .ok (.ireturn, 1) := by decide +kernel
theorem dX7_barOf_43 : decode cX7_barOf 43 = .ok (.aload_n 0, 1) := by decide +kernel
theorem dX7_barOf_44 : decode cX7_barOf 44 = .ok (.iload_n 3, 1) := by decide +kernel
theorem dX7_barOf_45 : decode cX7_barOf 45 = .ok (.invokevirtual 82, 3) := by decide +kernel
theorem dX7_barOf_48 : decode cX7_barOf 48 = .ok (.istore 4, 2) := by decide +kernel
theorem dX7_barOf_50 : decode cX7_barOf 50 = .ok (.iconst 1, 1) := by decide +kernel
theorem dX7_barOf_51 : decode cX7_barOf 51 = .ok (.istore 5, 2) := by decide +kernel
theorem dX7_barOf_53 : decode cX7_barOf 53 = .ok (.iconst 0, 1) := by decide +kernel
theorem dX7_barOf_54 : decode cX7_barOf 54 = .ok (.istore 6, 2) := by decide +kernel
theorem dX7_barOf_56 : decode cX7_barOf 56 = .ok (.iload 6, 2) := by decide +kernel
theorem dX7_barOf_58 : decode cX7_barOf 58 = .ok (.iload 4, 2) := by decide +kernel
theorem dX7_barOf_60 : decode cX7_barOf 60 = .ok (.if_icmp .ge 40, 3) := by decide +kernel
theorem dX7_barOf_63 : decode cX7_barOf 63 = .ok (.iload 5, 2) := by decide +kernel
theorem dX7_barOf_65 : decode cX7_barOf 65 = .ok (.ifCond .eq 26, 3) := by decide +kernel
theorem dX7_barOf_68 : decode cX7_barOf 68 = .ok (.aload_n 0, 1) := by decide +kernel
theorem dX7_barOf_69 : decode cX7_barOf 69 = .ok (.aload_n 0, 1) := by decide +kernel
theorem dX7_barOf_70 : decode cX7_barOf 70 = .ok (.getfield 7, 3) := by decide +kernel
theorem dX7_barOf_73 : decode cX7_barOf 73 = .ok (.iconst 2, 1) := by decide +kernel
theorem dX7_barOf_74 : decode cX7_barOf 74 = .ok (.iaload, 1) := by decide +kernel
theorem dX7_barOf_75 : decode cX7_barOf 75 = .ok (.iload 6, 2) := by decide +kernel
theorem dX7_barOf_77 : decode cX7_barOf 77 = .ok (.iadd, 1) := by decide +kernel
theorem dX7_barOf_78 : decode cX7_barOf 78 = .ok (.iload_n 1, 1) := by decide +kernel
theorem dX7_barOf_79 : decode cX7_barOf 79 = .ok (.invokevirtual 61, 3) := by decide +kernel
theorem dX7_barOf_82 : decode cX7_barOf 82 = .ok (.bipush 8, 2) := by decide +kernel
theorem dX7_barOf_84 : decode cX7_barOf 84 = .ok (.if_icmp .ge 7, 3) := by decide +kernel
theorem dX7_barOf_87 : decode cX7_barOf 87 = .ok (.iconst 1, 1) := by decide +kernel
theorem dX7_barOf_88 : decode cX7_barOf 88 = .ok (.goto 4, 3) := by decide +kernel
theorem dX7_barOf_91 : decode cX7_barOf 91 = .ok (.iconst 0, 1) := by decide +kernel
theorem dX7_barOf_92 : decode cX7_barOf 92 = .ok (.istore 5, 2) := by decide +kernel
theorem dX7_barOf_94 : decode cX7_barOf 94 = .ok (.iinc 6 1, 3) := by decide +kernel
theorem dX7_barOf_97 : decode cX7_barOf 97 = .ok (.goto (-41), 3) := by decide +kernel
theorem dX7_barOf_100 : decode cX7_barOf 100 = .ok (.iload 5, 2) := by decide +kernel
theorem dX7_barOf_102 : decode cX7_barOf 102 = .ok (.ifCond .eq 7, 3) := by decide +kernel
theorem dX7_barOf_105 : decode cX7_barOf 105 = .ok (.iconst 0, 1) := by decide +kernel
theorem dX7_barOf_106 : decode cX7_barOf 106 = .ok (.goto 5, 3) := by decide +kernel
theorem dX7_barOf_109 : decode cX7_barOf 109 = .ok (.bipush (-4), 2) := by decide +kernel
theorem dX7_barOf_111 : decode cX7_barOf 111 = .ok (.ireturn, 1) := by decide +kernel
theorem dX7_writeNow_0 : decode cX7_writeNow 0 = .ok (.aload_n 0, 1) := by decide +kernel
theorem dX7_writeNow_1 : decode cX7_writeNow 1 = .ok (.iload_n 3, 1) := by decide +kernel
theorem dX7_writeNow_2 : decode cX7_writeNow 2 = .ok (.invokevirtual 82, 3) := by decide +kernel
theorem dX7_writeNow_5 : decode cX7_writeNow 5 = .ok (.istore 4, 2) := by decide +kernel
theorem dX7_writeNow_7 : decode cX7_writeNow 7 = .ok (.aload_n 0, 1) := by decide +kernel
theorem dX7_writeNow_8 : decode cX7_writeNow 8 = .ok (.iload 4, 2) := by decide +kernel
theorem dX7_writeNow_10 : decode cX7_writeNow 10 = .ok (.invokevirtual 85, 3) := by decide +kernel
theorem dX7_writeNow_13 : decode cX7_writeNow 13 = .ok (.iconst 0, 1) := by decide +kernel
theorem dX7_writeNow_14 : decode cX7_writeNow 14 = .ok (.istore 5, 2) := by decide +kernel
theorem dX7_writeNow_16 : decode cX7_writeNow 16 = .ok (.iload 5, 2) := by decide +kernel
theorem dX7_writeNow_18 : decode cX7_writeNow 18 = .ok (.iload 4, 2) := by decide +kernel
theorem dX7_writeNow_20 : decode cX7_writeNow 20 = .ok (.if_icmp .ge 38, 3) := by decide +kernel
theorem dX7_writeNow_23 : decode cX7_writeNow 23 = .ok (.aload_n 0, 1) := by decide +kernel
theorem dX7_writeNow_24 : decode cX7_writeNow 24 = .ok (.aload_n 0, 1) := by decide +kernel
theorem dX7_writeNow_25 : decode cX7_writeNow 25 = .ok (.getfield 7, 3) := by decide +kernel
theorem dX7_writeNow_28 : decode cX7_writeNow 28 = .ok (.iconst 2, 1) := by decide +kernel
theorem dX7_writeNow_29 : decode cX7_writeNow 29 = .ok (.iaload, 1) := by decide +kernel
theorem dX7_writeNow_30 : decode cX7_writeNow 30 = .ok (.iload 5, 2) := by decide +kernel
theorem dX7_writeNow_32 : decode cX7_writeNow 32 = .ok (.iadd, 1) := by decide +kernel
theorem dX7_writeNow_33 : decode cX7_writeNow 33 = .ok (.iload_n 1, 1) := by decide +kernel
theorem dX7_writeNow_34 : decode cX7_writeNow 34 = .ok (.iload_n 2, 1) := by decide +kernel
theorem dX7_writeNow_35 : decode cX7_writeNow 35 = .ok (.aload_n 0, 1) := by decide +kernel
theorem dX7_writeNow_36 : decode cX7_writeNow 36 = .ok (.getfield 29, 3) := by decide +kernel
theorem dX7_writeNow_39 : decode cX7_writeNow 39 = .ok (.aload_n 0, 1) := by decide +kernel
theorem dX7_writeNow_40 : decode cX7_writeNow 40 = .ok (.getfield 7, 3) := by decide +kernel
theorem dX7_writeNow_43 : decode cX7_writeNow 43 = .ok (.iconst 2, 1) := by decide +kernel
theorem dX7_writeNow_44 : decode cX7_writeNow 44 = .ok (.iaload, 1) := by decide +kernel
theorem dX7_writeNow_45 : decode cX7_writeNow 45 = .ok (.iload 5, 2) := by decide +kernel
theorem dX7_writeNow_47 : decode cX7_writeNow 47 = .ok (.iadd, 1) := by decide +kernel
theorem dX7_writeNow_48 : decode cX7_writeNow 48 = .ok (.iaload, 1) := by decide +kernel
theorem dX7_writeNow_49 : decode cX7_writeNow 49 = .ok (.invokevirtual 89, 3) := by decide +kernel
theorem dX7_writeNow_52 : decode cX7_writeNow 52 = .ok (.iinc 5 1, 3) := by decide +kernel
theorem dX7_writeNow_55 : decode cX7_writeNow 55 = .ok (.goto (-39), 3) := by decide +kernel
theorem dX7_writeNow_58 : decode cX7_writeNow 58 = .ok (.iload 4, 2) := by decide +kernel
theorem dX7_writeNow_60 : decode cX7_writeNow 60 = .ok (.ireturn, 1) := by decide +kernel
theorem dX7_write_0 : decode cX7_write 0 = .ok (.aload_n 0, 1) := by decide +kernel
theorem dX7_write_1 : decode cX7_write 1 = .ok (.iload_n 1, 1) := by decide +kernel
theorem dX7_write_2 : decode cX7_write 2 = .ok (.iload_n 2, 1) := by decide +kernel
theorem dX7_write_3 : decode cX7_write 3 = .ok (.iload_n 3, 1) := by decide +kernel
theorem dX7_write_4 : decode cX7_write 4 = .ok (.invokevirtual 93, 3) := by decide +kernel
theorem dX7_write_7 : decode cX7_write 7 = .ok (.istore 4, 2) := by decide +kernel
theorem dX7_write_9 : decode cX7_write 9 = .ok (.iload 4, 2) := by decide +kernel
theorem dX7_write_11 : decode cX7_write 11 = .ok (.ifCond .ge 6, 3) := by decide +kernel
theorem dX7_write_14 : decode cX7_write 14 = .ok (.iload 4, 2) := by decide +kernel
theorem dX7_write_16 : decode cX7_write 16 = .ok (.ireturn, 1) := by decide +kernel
theorem dX7_write_17 : decode cX7_write 17 = .ok (.aload_n 0, 1) := by decide +kernel
theorem dX7_write_18 : decode cX7_write 18 = .ok (.invokevirtual 47, 3) := by decide +kernel
theorem dX7_write_21 : decode cX7_write 21 = .ok (.aload_n 0, 1) := by decide +kernel
theorem dX7_write_22 : decode cX7_write 22 = .ok (.iload_n 1, 1) := by decide +kernel
theorem dX7_write_23 : decode cX7_write 23 = .ok (.iload_n 2, 1) := by decide +kernel
theorem dX7_write_24 : decode cX7_write 24 = .ok (.iload_n 3, 1) := by decide +kernel
theorem dX7_write_25 : decode cX7_write 25 = .ok (.invokevirtual 96, 3) := by decide +kernel
theorem dX7_write_28 : decode cX7_write 28 = .ok (.ireturn, 1) := by decide +kernel
theorem dX7_strikeNow_0 : decode cX7_strikeNow 0 = .ok (.aload_n 0, 1) := by decide +kernel
theorem dX7_strikeNow_1 : decode cX7_strikeNow 1 = .ok (.iload_n 2, 1) := by decide +kernel
theorem dX7_strikeNow_2 : decode cX7_strikeNow 2 = .ok (.invokevirtual 82, 3) := by decide +kernel
theorem dX7_strikeNow_5 : decode cX7_strikeNow 5 = .ok (.istore_n 3, 1) := by decide +kernel
theorem dX7_strikeNow_6 : decode cX7_strikeNow 6 = .ok (.aload_n 0, 1) := by decide +kernel
theorem dX7_strikeNow_7 : decode cX7_strikeNow 7 = .ok (.iload_n 3, 1) := by decide +kernel
theorem dX7_strikeNow_8 : decode cX7_strikeNow 8 = .ok (.invokevirtual 85, 3) := by decide +kernel
theorem dX7_strikeNow_11 : decode cX7_strikeNow 11 = .ok (.iconst 0, 1) := by decide +kernel
theorem dX7_strikeNow_12 : decode cX7_strikeNow 12 = .ok (.istore 4, 2) := by decide +kernel
theorem dX7_strikeNow_14 : decode cX7_strikeNow 14 = .ok (.iconst 0, 1) := by decide +kernel
theorem dX7_strikeNow_15 : decode cX7_strikeNow 15 = .ok (.istore 5, 2) := by decide +kernel
theorem dX7_strikeNow_17 : decode cX7_strikeNow 17 = .ok (.iload 5, 2) := by decide +kernel
theorem dX7_strikeNow_19 : decode cX7_strikeNow 19 = .ok (.iload_n 3, 1) := by decide +kernel
theorem dX7_strikeNow_20 : decode cX7_strikeNow 20 = .ok (.if_icmp .ge 42, 3) := by decide +kernel
theorem dX7_strikeNow_23 : decode cX7_strikeNow 23 = .ok (.iload 4, 2) := by decide +kernel
theorem dX7_strikeNow_25 : decode cX7_strikeNow 25 = .ok (.aload_n 0, 1) := by decide +kernel
theorem dX7_strikeNow_26 : decode cX7_strikeNow 26 = .ok (.aload_n 0, 1) := by decide +kernel
theorem dX7_strikeNow_27 : decode cX7_strikeNow 27 = .ok (.getfield 7, 3) := by decide +kernel
theorem dX7_strikeNow_30 : decode cX7_strikeNow 30 = .ok (.iconst 2, 1) := by decide +kernel
theorem dX7_strikeNow_31 : decode cX7_strikeNow 31 = .ok (.iaload, 1) := by decide +kernel
theorem dX7_strikeNow_32 : decode cX7_strikeNow 32 = .ok (.iload 5, 2) := by decide +kernel
theorem dX7_strikeNow_34 : decode cX7_strikeNow 34 = .ok (.iadd, 1) := by decide +kernel
theorem dX7_strikeNow_35 : decode cX7_strikeNow 35 = .ok (.iload_n 1, 1) := by decide +kernel
theorem dX7_strikeNow_36 : decode cX7_strikeNow 36 = .ok (.aload_n 0, 1) := by decide +kernel
theorem dX7_strikeNow_37 : decode cX7_strikeNow 37 = .ok (.getfield 29, 3) := by decide +kernel
theorem dX7_strikeNow_40 : decode cX7_strikeNow 40 = .ok (.aload_n 0, 1) := by decide +kernel
theorem dX7_strikeNow_41 : decode cX7_strikeNow 41 = .ok (.getfield 7, 3) := by decide +kernel
theorem dX7_strikeNow_44 : decode cX7_strikeNow 44 = .ok (.iconst 2, 1) := by decide +kernel
theorem dX7_strikeNow_45 : decode cX7_strikeNow 45 = .ok (.iaload, 1) := by decide +kernel
theorem dX7_strikeNow_46 : decode cX7_strikeNow 46 = .ok (.iload 5, 2) := by decide +kernel
theorem dX7_strikeNow_48 : decode cX7_strikeNow 48 = .ok (.iadd, 1) := by decide +kernel
theorem dX7_strikeNow_49 : decode cX7_strikeNow 49 = .ok (.iaload, 1) := by decide +kernel
theorem dX7_strikeNow_50 : decode cX7_strikeNow 50 = .ok (.invokevirtual 99, 3) := by decide +kernel
theorem dX7_strikeNow_53 : decode cX7_strikeNow 53 = .ok (.iadd, 1) := by decide +kernel
theorem dX7_strikeNow_54 : decode cX7_strikeNow 54 = .ok (.istore 4, 2) := by decide +kernel
theorem dX7_strikeNow_56 : decode cX7_strikeNow 56 = .ok (.iinc 5 1, 3) := by decide +kernel
theorem dX7_strikeNow_59 : decode cX7_strikeNow 59 = .ok (.goto (-42), 3) := by decide +kernel
theorem dX7_strikeNow_62 : decode cX7_strikeNow 62 = .ok (.iload 4, 2) := by decide +kernel
theorem dX7_strikeNow_64 : decode cX7_strikeNow 64 = .ok (.ireturn, 1) := by decide +kernel
theorem dX7_strike_0 : decode cX7_strike 0 = .ok (.iload_n 1, 1) := by decide +kernel
theorem dX7_strike_1 : decode cX7_strike 1 = .ok (.invokestatic 75, 3) := by decide +kernel
theorem dX7_strike_4 : decode cX7_strike 4 = .ok (.ifCond .ne 5, 3) := by decide +kernel
theorem dX7_strike_7 : decode cX7_strike 7 = .ok (.iconst (-1), 1) := by decide +kernel
theorem dX7_strike_8 : decode cX7_strike 8 = .ok (.ireturn, 1) := by decide +kernel
theorem dX7_strike_9 : decode cX7_strike 9 = .ok (.iload_n 2, 1) := by decide +kernel
theorem dX7_strike_10 : decode cX7_strike 10 = .ok (.iconst 1, 1) := by decide +kernel
theorem dX7_strike_11 : decode cX7_strike 11 = .ok (.bipush 9, 2) := by decide +kernel
theorem dX7_strike_13 : decode cX7_strike 13 = .ok (.invokestatic 43, 3) := by decide +kernel
theorem dX7_strike_16 : decode cX7_strike 16 = .ok (.ifCond .ne 6, 3) := by decide +kernel
theorem dX7_strike_19 : decode cX7_strike 19 = .ok (.bipush (-2), 2) := by decide +kernel
theorem dX7_strike_21 : decode cX7_strike 21 = .ok (.ireturn, 1) := by decide +kernel
theorem dX7_strike_22 : decode cX7_strike 22 = .ok (.aload_n 0, 1) := by decide +kernel
theorem dX7_strike_23 : decode cX7_strike 23 = .ok (.invokevirtual 78, 3) := by decide +kernel
theorem dX7_strike_26 : decode cX7_strike 26 = .ok (.ifCond .ne 6, 3) := by decide +kernel
theorem dX7_strike_29 : decode cX7_strike 29 = .ok (.bipush (-5), 2) := by decide +kernel
theorem dX7_strike_31 : decode cX7_strike 31 = .ok (.ireturn, 1) := by decide +kernel
theorem dX7_strike_32 : decode cX7_strike 32 = .ok (.aload_n 0, 1) := by decide +kernel
theorem dX7_strike_33 : decode cX7_strike 33 = .ok (.invokevirtual 47, 3) := by decide +kernel
theorem dX7_strike_36 : decode cX7_strike 36 = .ok (.aload_n 0, 1) := by decide +kernel
theorem dX7_strike_37 : decode cX7_strike 37 = .ok (.iload_n 1, 1) := by decide +kernel
theorem dX7_strike_38 : decode cX7_strike 38 = .ok (.iload_n 2, 1) := by decide +kernel
