theorem dX0_init_0 : decode cX0_init 0 = .ok (.aload_n 0, 1) := by decide +kernel
theorem dX0_init_1 : decode cX0_init 1 = .ok (.invokespecial 3, 3) := by decide +kernel
theorem dX0_init_4 : decode cX0_init 4 = .ok (.aload_n 0, 1) := by decide +kernel
theorem dX0_init_5 : decode cX0_init 5 = .ok (.iconst 0, 1) := by decide +kernel
theorem dX0_init_6 : decode cX0_init 6 = .ok (.putfield 9, 3) := by decide +kernel
theorem dX0_init_9 : decode cX0_init 9 = .ok (.aload_n 0, 1) := by decide +kernel
theorem dX0_init_10 : decode cX0_init 10 = .ok (.bipush 6, 2) := by decide +kernel
theorem dX0_init_12 : decode cX0_init 12 = .ok (.anewarray 15, 3) := by decide +kernel
theorem dX0_init_15 : decode cX0_init 15 = .ok (.putfield 17, 3) := by decide +kernel
theorem dX0_init_18 : decode cX0_init 18 = .ok (.iconst 0, 1) := by decide +kernel
theorem dX0_init_19 : decode cX0_init 19 = .ok (.istore_n 1, 1) := by decide +kernel
theorem dX0_init_20 : decode cX0_init 20 = .ok (.iload_n 1, 1) := by decide +kernel
theorem dX0_init_21 : decode cX0_init 21 = .ok (.bipush 6, 2) := by decide +kernel
theorem dX0_init_23 : decode cX0_init 23 = .ok (.if_icmp .ge 22, 3) := by decide +kernel
theorem dX0_init_26 : decode cX0_init 26 = .ok (.aload_n 0, 1) := by decide +kernel
theorem dX0_init_27 : decode cX0_init 27 = .ok (.getfield 17, 3) := by decide +kernel
theorem dX0_init_30 : decode cX0_init 30 = .ok (.iload_n 1, 1) := by decide +kernel
theorem dX0_init_31 : decode cX0_init 31 = .ok (.new 15, 3) := by decide +kernel
theorem dX0_init_34 : decode cX0_init 34 = .ok (.dup, 1) := by decide +kernel
theorem dX0_init_35 : decode cX0_init 35 = .ok (.invokespecial 21, 3) := by decide +kernel
theorem dX0_init_38 : decode cX0_init 38 = .ok (.aastore, 1) := by decide +kernel
theorem dX0_init_39 : decode cX0_init 39 = .ok (.iinc 1 1, 3) := by decide +kernel
theorem dX0_init_42 : decode cX0_init 42 = .ok (.goto (-22), 3) := by decide +kernel
theorem dX0_init_45 : decode cX0_init 45 = .ok (.return_, 1) := by decide +kernel
theorem dX0_record_0 : decode cX0_record 0 = .ok (.aload_n 0, 1) := by decide +kernel
theorem dX0_record_1 : decode cX0_record 1 = .ok (.getfield 9, 3) := by decide +kernel
theorem dX0_record_4 : decode cX0_record 4 = .ok (.bipush 6, 2) := by decide +kernel
theorem dX0_record_6 : decode cX0_record 6 = .ok (.if_icmp .lt 7, 3) := by decide +kernel
theorem dX0_record_9 : decode cX0_record 9 = .ok (.aload_n 0, 1) := by decide +kernel
theorem dX0_record_10 : decode cX0_record 10 = .ok (.invokevirtual 22, 3) := by decide +kernel
theorem dX0_record_13 : decode cX0_record 13 = .ok (.aload_n 0, 1) := by decide +kernel
theorem dX0_record_14 : decode cX0_record 14 = .ok (.getfield 17, 3) := by decide +kernel
theorem dX0_record_17 : decode cX0_record 17 = .ok (.aload_n 0, 1) := by decide +kernel
theorem dX0_record_18 : decode cX0_record 18 = .ok (.getfield 9, 3) := by decide +kernel
theorem dX0_record_21 : decode cX0_record 21 = .ok (.aaload, 1) := by decide +kernel
theorem dX0_record_22 : decode cX0_record 22 = .ok (.aload_n 1, 1) := by decide +kernel
theorem dX0_record_23 : decode cX0_record 23 = .ok (.invokevirtual 25, 3) := by decide +kernel
theorem dX0_record_26 : decode cX0_record 26 = .ok (.aload_n 0, 1) := by decide +kernel
theorem dX0_record_27 : decode cX0_record 27 = .ok (.dup, 1) := by decide +kernel
theorem dX0_record_28 : decode cX0_record 28 = .ok (.getfield 9, 3) := by decide +kernel
theorem dX0_record_31 : decode cX0_record 31 = .ok (.iconst 1, 1) := by decide +kernel
theorem dX0_record_32 : decode cX0_record 32 = .ok (.iadd, 1) := by decide +kernel
theorem dX0_record_33 : decode cX0_record 33 = .ok (.putfield 9, 3) := by decide +kernel
theorem dX0_record_36 : decode cX0_record 36 = .ok (.return_, 1) := by decide +kernel
theorem dX0_dropOldest_0 : decode cX0_dropOldest 0 = .ok (.aload_n 0, 1) := by decide +kernel
theorem dX0_dropOldest_1 : decode cX0_dropOldest 1 = .ok (.getfield 17, 3) := by decide +kernel
theorem dX0_dropOldest_4 : decode cX0_dropOldest 4 = .ok (.iconst 0, 1) := by decide +kernel
theorem dX0_dropOldest_5 : decode cX0_dropOldest 5 = .ok (.aaload, 1) := by decide +kernel
theorem dX0_dropOldest_6 : decode cX0_dropOldest 6 = .ok (.astore_n 1, 1) := by decide +kernel
theorem dX0_dropOldest_7 : decode cX0_dropOldest 7 = .ok (.iconst 1, 1) := by decide +kernel
theorem dX0_dropOldest_8 : decode cX0_dropOldest 8 = .ok (.istore_n 2, 1) := by decide +kernel
theorem dX0_dropOldest_9 : decode cX0_dropOldest 9 = .ok (.iload_n 2, 1) := by decide +kernel
theorem dX0_dropOldest_10 : decode cX0_dropOldest 10 = .ok (.bipush 6, 2) := by decide +kernel
theorem dX0_dropOldest_12 : decode cX0_dropOldest 12 = .ok (.if_icmp .ge 23, 3) := by decide +kernel
theorem dX0_dropOldest_15 : decode cX0_dropOldest 15 = .ok (.aload_n 0, 1) := by decide +kernel
theorem dX0_dropOldest_16 : decode cX0_dropOldest 16 = .ok (.getfield 17, 3) := by decide +kernel
theorem dX0_dropOldest_19 : decode cX0_dropOldest 19 = .ok (.iload_n 2, 1) := by decide +kernel
theorem dX0_dropOldest_20 : decode cX0_dropOldest 20 = .ok (.iconst 1, 1) := by decide +kernel
theorem dX0_dropOldest_21 : decode cX0_dropOldest 21 = .ok (.isub, 1) := by decide +kernel
theorem dX0_dropOldest_22 : decode cX0_dropOldest 22 = .ok (.aload_n 0, 1) := by decide +kernel
theorem dX0_dropOldest_23 : decode cX0_dropOldest 23 = .ok (.getfield 17, 3) := by decide +kernel
theorem dX0_dropOldest_26 : decode cX0_dropOldest 26 = .ok (.iload_n 2, 1) := by decide +kernel
theorem dX0_dropOldest_27 : decode cX0_dropOldest 27 = .ok (.aaload, 1) := by decide +kernel
theorem dX0_dropOldest_28 : decode cX0_dropOldest 28 = .ok (.aastore, 1) := by decide +kernel
theorem dX0_dropOldest_29 : decode cX0_dropOldest 29 = .ok (.iinc 2 1, 3) := by decide +kernel
theorem dX0_dropOldest_32 : decode cX0_dropOldest 32 = .ok (.goto (-23), 3) := by decide +kernel
theorem dX0_dropOldest_35 : decode cX0_dropOldest 35 = .ok (.aload_n 0, 1) := by decide +kernel
theorem dX0_dropOldest_36 : decode cX0_dropOldest 36 = .ok (.getfield 17, 3) := by decide +kernel
theorem dX0_dropOldest_39 : decode cX0_dropOldest 39 = .ok (.iconst 5, 1) := by decide +kernel
theorem dX0_dropOldest_40 : decode cX0_dropOldest 40 = .ok (.aload_n 1, 1) := by decide +kernel
theorem dX0_dropOldest_41 : decode cX0_dropOldest 41 = .ok (.aastore, 1) := by decide +kernel
theorem dX0_dropOldest_42 : decode cX0_dropOldest 42 = .ok (.aload_n 0, 1) := by decide +kernel
theorem dX0_dropOldest_43 : decode cX0_dropOldest 43 = .ok (.iconst 5, 1) := by decide +kernel
theorem dX0_dropOldest_44 : decode cX0_dropOldest 44 = .ok (.putfield 9, 3) := by decide +kernel
theorem dX0_dropOldest_47 : decode cX0_dropOldest 47 = .ok (.return_, 1) := by decide +kernel
theorem dX0_takesBackInto_0 : decode cX0_takesBackInto 0 = .ok (.aload_n 0, 1) := by decide +kernel
theorem dX0_takesBackInto_1 : decode cX0_takesBackInto 1 = .ok (.getfield 9, 3) := by decide +kernel
theorem dX0_takesBackInto_4 : decode cX0_takesBackInto 4 = .ok (.iconst 1, 1) := by decide +kernel
theorem dX0_takesBackInto_5 : decode cX0_takesBackInto 5 = .ok (.if_icmp .ge 5, 3) := by decide +kernel
theorem dX0_takesBackInto_8 : decode cX0_takesBackInto 8 = .ok (.iconst 0, 1) := by decide +kernel
theorem dX0_takesBackInto_9 : decode cX0_takesBackInto 9 = .ok (.ireturn, 1) := by decide +kernel
theorem dX0_takesBackInto_10 : decode cX0_takesBackInto 10 = .ok (.aload_n 0, 1) := by decide +kernel
theorem dX0_takesBackInto_11 : decode cX0_takesBackInto 11 = .ok (.dup, 1) := by decide +kernel
theorem dX0_takesBackInto_12 : decode cX0_takesBackInto 12 = .ok (.getfield 9, 3) := by decide +kernel
theorem dX0_takesBackInto_15 : decode cX0_takesBackInto 15 = .ok (.iconst 1, 1) := by decide +kernel
theorem dX0_takesBackInto_16 : decode cX0_takesBackInto 16 = .ok (.isub, 1) := by decide +kernel
theorem dX0_takesBackInto_17 : decode cX0_takesBackInto 17 = .ok (.putfield 9, 3) := by decide +kernel
theorem dX0_takesBackInto_20 : decode cX0_takesBackInto 20 = .ok (.aload_n 1, 1) := by decide +kernel
theorem dX0_takesBackInto_21 : decode cX0_takesBackInto 21 = .ok (.aload_n 0, 1) := by decide +kernel
theorem dX0_takesBackInto_22 : decode cX0_takesBackInto 22 = .ok (.getfield 17, 3) := by decide +kernel
theorem dX0_takesBackInto_25 : decode cX0_takesBackInto 25 = .ok (.aload_n 0, 1) := by decide +kernel
theorem dX0_takesBackInto_26 : decode cX0_takesBackInto 26 = .ok (.getfield 9, 3) := by decide +kernel
theorem dX0_takesBackInto_29 : decode cX0_takesBackInto 29 = .ok (.aaload, 1) := by decide +kernel
theorem dX0_takesBackInto_30 : decode cX0_takesBackInto 30 = .ok (.invokevirtual 25, 3) := by decide +kernel
theorem dX0_takesBackInto_33 : decode cX0_takesBackInto 33 = .ok (.iconst 1, 1) := by decide +kernel
theorem dX0_takesBackInto_34 : decode cX0_takesBackInto 34 = .ok (.ireturn, 1) := by decide +kernel
theorem dX1_init_0 : decode cX1_init 0 = .ok (.aload_n 0, 1) := by decide +kernel
theorem dX1_init_1 : decode cX1_init 1 = .ok (.invokespecial 3, 3) := by decide +kernel
theorem dX1_init_4 : decode cX1_init 4 = .ok (.return_, 1) := by decide +kernel
theorem dX1_begin_0 : decode cX1_begin 0 = .ok (.aload_n 0, 1) := by decide +kernel
theorem dX1_begin_1 : decode cX1_begin 1 = .ok (.iconst 0, 1) := by decide +kernel
theorem dX1_begin_2 : decode cX1_begin 2 = .ok (.putfield 11, 3) := by decide +kernel
theorem dX1_begin_5 : decode cX1_begin 5 = .ok (.return_, 1) := by decide +kernel
theorem dX1_isAfterOrder_0 : decode cX1_isAfterOrder 0 = .ok (.aload_n 0, 1) := by decide +kernel
theorem dX1_isAfterOrder_1 : decode cX1_isAfterOrder 1 = .ok (.getfield 11, 3) := by decide +kernel
theorem dX1_isAfterOrder_4 : decode cX1_isAfterOrder 4 = .ok (.bipush 7, 2) := by decide +kernel
theorem dX1_isAfterOrder_6 : decode cX1_isAfterOrder 6 = .ok (.if_icmp .ne 7, 3) := by decide +kernel
theorem dX1_isAfterOrder_9 : decode cX1_isAfterOrder 9 = .ok (.iconst 1, 1) := by decide +kernel
theorem dX1_isAfterOrder_10 : decode cX1_isAfterOrder 10 = .ok (.goto 4, 3) := by decide +kernel
theorem dX1_isAfterOrder_13 : decode cX1_isAfterOrder 13 = .ok (.iconst 0, 1) := by decide +kernel
theorem dX1_isAfterOrder_14 : decode cX1_isAfterOrder 14 = .ok (.ireturn, 1) := by decide +kernel
theorem dX1_takes_0 : decode cX1_takes 0 = .ok (.aload_n 0, 1) := by decide +kernel
theorem dX1_takes_1 : decode cX1_takes 1 = .ok (.getfield 11, 3) := by decide +kernel
theorem dX1_takes_4 : decode cX1_takes 4 = .ok (.tableswitch 125 0 6 #[44, 50, 56, 73, 79, 101, 119], 44) := by decide +kernel
theorem dX1_takes_48 : decode cX1_takes 48 = .ok (.aload_n 0, 1) := by decide +kernel
theorem dX1_takes_49 : decode cX1_takes 49 = .ok (.iload_n 1, 1) := by decide +kernel
theorem dX1_takes_50 : decode cX1_takes 50 = .ok (.invokevirtual 15, 3) := by decide +kernel
theorem dX1_takes_53 : decode cX1_takes 53 = .ok (.ireturn, 1) := by decide +kernel
theorem dX1_takes_54 : decode cX1_takes 54 = .ok (.aload_n 0, 1) := by decide +kernel
theorem dX1_takes_55 : decode cX1_takes 55 = .ok (.iload_n 1, 1) := by decide +kernel
theorem dX1_takes_56 : decode cX1_takes 56 = .ok (.invokevirtual 19, 3) := by decide +kernel
theorem dX1_takes_59 : decode cX1_takes 59 = .ok (.ireturn, 1) := by decide +kernel
theorem dX1_takes_60 : decode cX1_takes 60 = .ok (.aload_n 0, 1) := by decide +kernel
theorem dX1_takes_61 : decode cX1_takes 61 = .ok (.iload_n 1, 1) := by decide +kernel
theorem dX1_takes_62 : decode cX1_takes 62 = .ok (.bipush 61, 2) := by decide +kernel
theorem dX1_takes_64 : decode cX1_takes 64 = .ok (.if_icmp .ne 7, 3) := by decide +kernel
theorem dX1_takes_67 : decode cX1_takes 67 = .ok (.iconst 1, 1) := by decide +kernel
theorem dX1_takes_68 : decode cX1_takes 68 = .ok (.goto 4, 3) := by decide +kernel
theorem dX1_takes_71 : decode cX1_takes 71 = .ok (.iconst 0, 1) := by decide +kernel
theorem dX1_takes_72 : decode cX1_takes 72 = .ok (.iconst 3, 1) := by decide +kernel
theorem dX1_takes_73 : decode cX1_takes 73 = .ok (.invokevirtual 22, 3) := by decide +kernel
theorem dX1_takes_76 : decode cX1_takes 76 = .ok (.ireturn, 1) := by decide +kernel
theorem dX1_takes_77 : decode cX1_takes 77 = .ok (.aload_n 0, 1) := by decide +kernel
theorem dX1_takes_78 : decode cX1_takes 78 = .ok (.iload_n 1, 1) := by decide +kernel
theorem dX1_takes_79 : decode cX1_takes 79 = .ok (.invokevirtual 26, 3) := by decide +kernel
theorem dX1_takes_82 : decode cX1_takes 82 = .ok (.ireturn, 1) := by decide +kernel
theorem dX1_takes_83 : decode cX1_takes 83 = .ok (.iload_n 1, 1) := by decide +kernel
theorem dX1_takes_84 : decode cX1_takes 84 = .ok (.bipush 33, 2) := by decide +kernel
theorem dX1_takes_86 : decode cX1_takes 86 = .ok (.if_icmp .ne 13, 3) := by decide +kernel
theorem dX1_takes_89 : decode cX1_takes 89 = .ok (.aload_n 0, 1) := by decide +kernel
theorem dX1_takes_90 : decode cX1_takes 90 = .ok (.iconst 1, 1) := by decide +kernel
theorem dX1_takes_91 : decode cX1_takes 91 = .ok (.bipush 6, 2) := by decide +kernel
theorem dX1_takes_93 : decode cX1_takes 93 = .ok (.invokevirtual 22, 3) := by decide +kernel
theorem dX1_takes_96 : decode cX1_takes 96 = .ok (.goto 8, 3) := by decide +kernel
theorem dX1_takes_99 : decode cX1_takes 99 = .ok (.aload_n 0, 1) := by decide +kernel
theorem dX1_takes_100 : decode cX1_takes 100 = .ok (.iload_n 1, 1) := by decide +kernel
theorem dX1_takes_101 : decode cX1_takes 101 = .ok (.invokevirtual 29, 3) := by decide +kernel
theorem dX1_takes_104 : decode cX1_takes 104 = .ok (.ireturn, 1) := by decide +kernel
theorem dX1_takes_105 : decode cX1_takes 105 = .ok (.aload_n 0, 1) := by decide +kernel
theorem dX1_takes_106 : decode cX1_takes 106 = .ok (.iload_n 1, 1) := by decide +kernel
theorem dX1_takes_107 : decode cX1_takes 107 = .ok (.bipush 33, 2) := by decide +kernel
theorem dX1_takes_109 : decode cX1_takes 109 = .ok (.if_icmp .ne 7, 3) := by decide +kernel
theorem dX1_takes_112 : decode cX1_takes 112 = .ok (.iconst 1, 1) := by decide +kernel
theorem dX1_takes_113 : decode cX1_takes 113 = .ok (.goto 4, 3) := by decide +kernel
theorem dX1_takes_116 : decode cX1_takes 116 = .ok (.iconst 0, 1) := by decide +kernel
theorem dX1_takes_117 : decode cX1_takes 117 = .ok (.bipush 6, 2) := by decide +kernel
theorem dX1_takes_119 : decode cX1_takes 119 = .ok (.invokevirtual 22, 3) := by decide +kernel
theorem dX1_takes_122 : decode cX1_takes 122 = .ok (.ireturn, 1) := by decide +kernel
theorem dX1_takes_123 : decode cX1_takes 123 = .ok (.aload_n 0, 1) := by decide +kernel
theorem dX1_takes_124 : decode cX1_takes 124 = .ok (.iload_n 1, 1) := by decide +kernel
theorem dX1_takes_125 : decode cX1_takes 125 = .ok (.invokevirtual 32, 3) := by decide +kernel
theorem dX1_takes_128 : decode cX1_takes 128 = .ok (.ireturn, 1) := by decide +kernel
theorem dX1_takes_129 : decode cX1_takes 129 = .ok (.aload_n 0, 1) := by decide +kernel
theorem dX1_takes_130 : decode cX1_takes 130 = .ok (.iload_n 1, 1) := by decide +kernel
theorem dX1_takes_131 : decode cX1_takes 131 = .ok (.bipush 59, 2) := by decide +kernel
theorem dX1_takes_133 : decode cX1_takes 133 = .ok (.if_icmp .ne 7, 3) := by decide +kernel
theorem dX1_takes_136 : decode cX1_takes 136 = .ok (.iconst 1, 1) := by decide +kernel
theorem dX1_takes_137 : decode cX1_takes 137 = .ok (.goto 4, 3) := by decide +kernel
theorem dX1_takes_140 : decode cX1_takes 140 = .ok (.iconst 0, 1) := by decide +kernel
theorem dX1_takes_141 : decode cX1_takes 141 = .ok (.iconst 0, 1) := by decide +kernel
theorem dX1_takes_142 : decode cX1_takes 142 = .ok (.invokevirtual 22, 3) := by decide +kernel
theorem dX1_takes_145 : decode cX1_takes 145 = .ok (.ireturn, 1) := by decide +kernel
theorem dX1_goesOn_0 : decode cX1_goesOn 0 = .ok (.iload_n 1, 1) := by decide +kernel
theorem dX1_goesOn_1 : decode cX1_goesOn 1 = .ok (.ifCond .eq 8, 3) := by decide +kernel
theorem dX1_goesOn_4 : decode cX1_goesOn 4 = .ok (.aload_n 0, 1) := by decide +kernel
theorem dX1_goesOn_5 : decode cX1_goesOn 5 = .ok (.iload_n 2, 1) := by decide +kernel
theorem dX1_goesOn_6 : decode cX1_goesOn 6 = .ok (.putfield 11, 3) := by decide +kernel
theorem dX1_goesOn_9 : decode cX1_goesOn 9 = .ok (.iload_n 1, 1) := by decide +kernel
theorem dX1_goesOn_10 : decode cX1_goesOn 10 = .ok (.ireturn, 1) := by decide +kernel
theorem dX1_takesKind_0 : decode cX1_takesKind 0 = .ok (.aload_n 0, 1) := by decide +kernel
theorem dX1_takesKind_1 : decode cX1_takesKind 1 = .ok (.iload_n 1, 1) := by decide +kernel
theorem dX1_takesKind_2 : decode cX1_takesKind 2 = .ok (.putfield 35, 3) := by decide +kernel
theorem dX1_takesKind_5 : decode cX1_takesKind 5 = .ok (.iload_n 1, 1) := by decide +kernel
theorem dX1_takesKind_6 : decode cX1_takesKind 6 = .ok (.bipush 119, 2) := by decide +kernel
theorem dX1_takesKind_8 : decode cX1_takesKind 8 = .ok (.if_icmp .eq 9, 3) := by decide +kernel
theorem dX1_takesKind_11 : decode cX1_takesKind 11 = .ok (.iload_n 1, 1) := by decide +kernel
theorem dX1_takesKind_12 : decode cX1_takesKind 12 = .ok (.bipush 115, 2) := by decide +kernel
theorem dX1_takesKind_14 : decode cX1_takesKind 14 = .ok (.if_icmp .ne 10, 3) := by decide +kernel
theorem dX1_takesKind_17 : decode cX1_takesKind 17 = .ok (.aload_n 0, 1) := by decide +kernel
theorem dX1_takesKind_18 : decode cX1_takesKind 18 = .ok (.iconst 1, 1) := by decide +kernel
theorem dX1_takesKind_19 : decode cX1_takesKind 19 = .ok (.iconst 1, 1) := by decide +kernel
theorem dX1_takesKind_20 : decode cX1_takesKind 20 = .ok (.invokevirtual 22, 3) := by decide +kernel
theorem dX1_takesKind_23 : decode cX1_takesKind 23 = .ok (.ireturn, 1) := by decide +kernel
theorem dX1_takesKind_24 : decode cX1_takesKind 24 = .ok (.aload_n 0, 1) := by decide +kernel
theorem dX1_takesKind_25 : decode cX1_takesKind 25 = .ok (.iload_n 1, 1) := by decide +kernel
theorem dX1_takesKind_26 : decode cX1_takesKind 26 = .ok (.bipush 116, 2) := by decide +kernel
theorem dX1_takesKind_28 : decode cX1_takesKind 28 = .ok (.if_icmp .eq 9, 3) := by decide +kernel
theorem dX1_takesKind_31 : decode cX1_takesKind 31 = .ok (.iload_n 1, 1) := by decide +kernel
theorem dX1_takesKind_32 : decode cX1_takesKind 32 = .ok (.bipush 98, 2) := by decide +kernel
theorem dX1_takesKind_34 : decode cX1_takesKind 34 = .ok (.if_icmp .ne 7, 3) := by decide +kernel
theorem dX1_takesKind_37 : decode cX1_takesKind 37 = .ok (.iconst 1, 1) := by decide +kernel
theorem dX1_takesKind_38 : decode cX1_takesKind 38 = .ok (.goto 4, 3) := by decide +kernel
theorem dX1_takesKind_41 : decode cX1_takesKind 41 = .ok (.iconst 0, 1) := by decide +kernel
theorem dX1_takesKind_42 : decode cX1_takesKind 42 = .ok (.bipush 7, 2) := by decide +kernel
theorem dX1_takesKind_44 : decode cX1_takesKind 44 = .ok (.invokevirtual 22, 3) := by decide +kernel
theorem dX1_takesKind_47 : decode cX1_takesKind 47 = .ok (.ireturn, 1) := by decide +kernel
theorem dX1_takesField_0 : decode cX1_takesField 0 = .ok (.aload_n 0, 1) := by decide +kernel
theorem dX1_takesField_1 : decode cX1_takesField 1 = .ok (.iload_n 1, 1) := by decide +kernel
theorem dX1_takesField_2 : decode cX1_takesField 2 = .ok (.bipush 48, 2) := by decide +kernel
theorem dX1_takesField_4 : decode cX1_takesField 4 = .ok (.isub, 1) := by decide +kernel
theorem dX1_takesField_5 : decode cX1_takesField 5 = .ok (.putfield 38, 3) := by decide +kernel
theorem dX1_takesField_8 : decode cX1_takesField 8 = .ok (.aload_n 0, 1) := by decide +kernel
theorem dX1_takesField_9 : decode cX1_takesField 9 = .ok (.iload_n 1, 1) := by decide +kernel
theorem dX1_takesField_10 : decode cX1_takesField 10 = .ok (.invokestatic 41, 3) := by decide +kernel
theorem dX1_takesField_13 : decode cX1_takesField 13 = .ok (.aload_n 0, 1) := by decide +kernel
theorem dX1_takesField_14 : decode cX1_takesField 14 = .ok (.getfield 35, 3) := by decide +kernel
theorem dX1_takesField_17 : decode cX1_takesField 17 = .ok (.bipush 119, 2) := by decide +kernel
theorem dX1_takesField_19 : decode cX1_takesField 19 = .ok (.if_icmp .ne 7, 3) := by decide +kernel
theorem dX1_takesField_22 : decode cX1_takesField 22 = .ok (.iconst 2, 1) := by decide +kernel
theorem dX1_takesField_23 : decode cX1_takesField 23 = .ok (.goto 4, 3) := by decide +kernel
theorem dX1_takesField_26 : decode cX1_takesField 26 = .ok (.iconst 5, 1) := by decide +kernel
theorem dX1_takesField_27 : decode cX1_takesField 27 = .ok (.invokevirtual 22, 3) := by decide +kernel
theorem dX1_takesField_30 : decode cX1_takesField 30 = .ok (.ireturn, 1) := by decide +kernel
theorem dX1_takesFirstDigit_0 : decode cX1_takesFirstDigit 0 = .ok (.aload_n 0, 1) := by decide +kernel
theorem dX1_takesFirstDigit_1 : decode cX1_takesFirstDigit 1 = .ok (.iload_n 1, 1) := by decide +kernel
theorem dX1_takesFirstDigit_2 : decode cX1_takesFirstDigit 2 = .ok (.bipush 48, 2) := by decide +kernel
theorem dX1_takesFirstDigit_4 : decode cX1_takesFirstDigit 4 = .ok (.isub, 1) := by decide +kernel
theorem dX1_takesFirstDigit_5 : decode cX1_takesFirstDigit 5 = .ok (.putfield 44, 3) := by decide +kernel
theorem dX1_takesFirstDigit_8 : decode cX1_takesFirstDigit 8 = .ok (.aload_n 0, 1) := by decide +kernel
theorem dX1_takesFirstDigit_9 : decode cX1_takesFirstDigit 9 = .ok (.iload_n 1, 1) := by decide +kernel
theorem dX1_takesFirstDigit_10 : decode cX1_takesFirstDigit 10 = .ok (.invokestatic 41, 3) := by decide +kernel
theorem dX1_takesFirstDigit_13 : decode cX1_takesFirstDigit 13 = .ok (.iconst 4, 1) := by decide +kernel
theorem dX1_takesFirstDigit_14 : decode cX1_takesFirstDigit 14 = .ok (.invokevirtual 22, 3) := by decide +kernel
theorem dX1_takesFirstDigit_17 : decode cX1_takesFirstDigit 17 = .ok (.ireturn, 1) := by decide +kernel
theorem dX1_takesOneMoreDigit_0 : decode cX1_takesOneMoreDigit 0 = .ok (.iload_n 1, 1) := by decide +kernel
theorem dX1_takesOneMoreDigit_1 : decode cX1_takesOneMoreDigit 1 = .ok (.invokestatic 41, 3) := by decide +kernel
theorem dX1_takesOneMoreDigit_4 : decode cX1_takesOneMoreDigit 4 = .ok (.ifCond .eq 10, 3) := by decide +kernel
theorem dX1_takesOneMoreDigit_7 : decode cX1_takesOneMoreDigit 7 = .ok (.aload_n 0, 1) := by decide +kernel
theorem dX1_takesOneMoreDigit_8 : decode cX1_takesOneMoreDigit 8 = .ok (.getfield 44, 3) := by decide +kernel
theorem dX1_takesOneMoreDigit_11 : decode cX1_takesOneMoreDigit 11 = .ok (.ifCond .ne 5, 3) := by decide +kernel
theorem dX1_takesOneMoreDigit_14 : decode cX1_takesOneMoreDigit 14 = .ok (.iconst 0, 1) := by decide +kernel
theorem dX1_takesOneMoreDigit_15 : decode cX1_takesOneMoreDigit 15 = .ok (.ireturn, 1) := by decide +kernel
theorem dX1_takesOneMoreDigit_16 : decode cX1_takesOneMoreDigit 16 = .ok (.aload_n 0, 1) := by decide +kernel
theorem dX1_takesOneMoreDigit_17 : decode cX1_takesOneMoreDigit 17 = .ok (.aload_n 0, 1) := by decide +kernel
theorem dX1_takesOneMoreDigit_18 : decode cX1_takesOneMoreDigit 18 = .ok (.getfield 44, 3) := by decide +kernel
theorem dX1_takesOneMoreDigit_21 : decode cX1_takesOneMoreDigit 21 = .ok (.bipush 10, 2) := by decide +kernel
theorem dX1_takesOneMoreDigit_23 : decode cX1_takesOneMoreDigit 23 = .ok (.imul, 1) := by decide +kernel
theorem dX1_takesOneMoreDigit_24 : decode cX1_takesOneMoreDigit 24 = .ok (.iload_n 1, 1) := by decide +kernel
theorem dX1_takesOneMoreDigit_25 : decode cX1_takesOneMoreDigit 25 = .ok (.bipush 48, 2) := by decide +kernel
theorem dX1_takesOneMoreDigit_27 : decode cX1_takesOneMoreDigit 27 = .ok (.isub, 1) := by decide +kernel
theorem dX1_takesOneMoreDigit_28 : decode cX1_takesOneMoreDigit 28 = .ok (.iadd, 1) := by decide +kernel
theorem dX1_takesOneMoreDigit_29 : decode cX1_takesOneMoreDigit 29 = .ok (.putfield 44, 3) := by decide +kernel
theorem dX1_takesOneMoreDigit_32 : decode cX1_takesOneMoreDigit 32 = .ok (.aload_n 0, 1) := by decide +kernel
theorem dX1_takesOneMoreDigit_33 : decode cX1_takesOneMoreDigit 33 = .ok (.getfield 44, 3) := by decide +kernel
theorem dX1_takesOneMoreDigit_36 : decode cX1_takesOneMoreDigit 36 = .ok (.sipush 999, 3) := by decide +kernel
theorem dX1_takesOneMoreDigit_39 : decode cX1_takesOneMoreDigit 39 = .ok (.if_icmp .gt 7, 3) := by decide +kernel
theorem dX1_takesOneMoreDigit_42 : decode cX1_takesOneMoreDigit 42 = .ok (.iconst 1, 1) := by decide +kernel
theorem dX1_takesOneMoreDigit_43 : decode cX1_takesOneMoreDigit 43 = .ok (.goto 4, 3) := by decide +kernel
theorem dX1_takesOneMoreDigit_46 : decode cX1_takesOneMoreDigit 46 = .ok (.iconst 0, 1) := by decide +kernel
theorem dX1_takesOneMoreDigit_47 : decode cX1_takesOneMoreDigit 47 = .ok (.ireturn, 1) := by decide +kernel
theorem dX1_takesPressure_0 : decode cX1_takesPressure 0 = .ok (.aload_n 0, 1) := by decide +kernel
theorem dX1_takesPressure_1 : decode cX1_takesPressure 1 = .ok (.iload_n 1, 1) := by decide +kernel
theorem dX1_takesPressure_2 : decode cX1_takesPressure 2 = .ok (.bipush 48, 2) := by decide +kernel
theorem dX1_takesPressure_4 : decode cX1_takesPressure 4 = .ok (.isub, 1) := by decide +kernel
theorem dX1_takesPressure_5 : decode cX1_takesPressure 5 = .ok (.putfield 47, 3) := by decide +kernel
theorem dX1_takesPressure_8 : decode cX1_takesPressure 8 = .ok (.aload_n 0, 1) := by decide +kernel
theorem dX1_takesPressure_9 : decode cX1_takesPressure 9 = .ok (.aload_n 0, 1) := by decide +kernel
theorem dX1_takesPressure_10 : decode cX1_takesPressure 10 = .ok (.getfield 47, 3) := by decide +kernel
theorem dX1_takesPressure_13 : decode cX1_takesPressure 13 = .ok (.invokestatic 50, 3) := by decide +kernel
theorem dX1_takesPressure_16 : decode cX1_takesPressure 16 = .ok (.bipush 7, 2) := by decide +kernel
theorem dX1_takesPressure_18 : decode cX1_takesPressure 18 = .ok (.invokevirtual 22, 3) := by decide +kernel
theorem dX1_takesPressure_21 : decode cX1_takesPressure 21 = .ok (.ireturn, 1) := by decide +kernel
theorem dX1_isDigit_0 : decode cX1_isDigit 0 = .ok (.iload_n 0, 1) := by decide +kernel
theorem dX1_isDigit_1 : decode cX1_isDigit 1 = .ok (.bipush 48, 2) := by decide +kernel
theorem dX1_isDigit_3 : decode cX1_isDigit 3 = .ok (.if_icmp .lt 13, 3) := by decide +kernel
theorem dX1_isDigit_6 : decode cX1_isDigit 6 = .ok (.iload_n 0, 1) := by decide +kernel
theorem dX1_isDigit_7 : decode cX1_isDigit 7 = .ok (.bipush 57, 2) := by decide +kernel
theorem dX1_isDigit_9 : decode cX1_isDigit 9 = .ok (.if_icmp .gt 7, 3) := by decide +kernel
theorem dX1_isDigit_12 : decode cX1_isDigit 12 = .ok (.iconst 1, 1) := by decide +kernel
theorem dX1_isDigit_13 : decode cX1_isDigit 13 = .ok (.goto 4, 3) := by decide +kernel
theorem dX1_isDigit_16 : decode cX1_isDigit 16 = .ok (.iconst 0, 1) := by decide +kernel
theorem dX1_isDigit_17 : decode cX1_isDigit 17 = .ok (.ireturn, 1) := by decide +kernel
theorem dX2_init_0 : decode cX2_init 0 = .ok (.aload_n 0, 1) := by decide +kernel
theorem dX2_init_1 : decode cX2_init 1 = .ok (.invokespecial 3, 3) := by decide +kernel
theorem dX2_init_4 : decode cX2_init 4 = .ok (.aload_n 0, 1) := by decide +kernel
theorem dX2_init_5 : decode cX2_init 5 = .ok (.iconst 0, 1) := by decide +kernel
theorem dX2_init_6 : decode cX2_init 6 = .ok (.putfield 9, 3) := by decide +kernel
theorem dX2_init_9 : decode cX2_init 9 = .ok (.aload_n 0, 1) := by decide +kernel
theorem dX2_init_10 : decode cX2_init 10 = .ok (.bipush 80, 2) := by decide +kernel
theorem dX2_init_12 : decode cX2_init 12 = .ok (.newarray .char, 2) := by decide +kernel
theorem dX2_init_14 : decode cX2_init 14 = .ok (.putfield 15, 3) := by decide +kernel
theorem dX2_init_17 : decode cX2_init 17 = .ok (.return_, 1) := by decide +kernel
theorem dX2_sizeOf_0 : decode cX2_sizeOf 0 = .ok (.iconst 0, 1) := by decide +kernel
theorem dX2_sizeOf_1 : decode cX2_sizeOf 1 = .ok (.istore_n 2, 1) := by decide +kernel
theorem dX2_sizeOf_2 : decode cX2_sizeOf 2 = .ok (.iload_n 2, 1) := by decide +kernel
theorem dX2_sizeOf_3 : decode cX2_sizeOf 3 = .ok (.bipush 8, 2) := by decide +kernel
theorem dX2_sizeOf_5 : decode cX2_sizeOf 5 = .ok (.if_icmp .ge 55, 3) := by decide +kernel
theorem dX2_sizeOf_8 : decode cX2_sizeOf 8 = .ok (.lload_n 0, 1) := by decide +kernel
theorem dX2_sizeOf_9 : decode cX2_sizeOf 9 = .ok (.bipush 8, 2) := by decide +kernel
theorem dX2_sizeOf_11 : decode cX2_sizeOf 11 = .ok (.iload_n 2, 1) := by decide +kernel
theorem dX2_sizeOf_12 : decode cX2_sizeOf 12 = .ok (.imul, 1) := by decide +kernel
theorem dX2_sizeOf_13 : decode cX2_sizeOf 13 = .ok (.lushr, 1) := by decide +kernel
theorem dX2_sizeOf_14 : decode cX2_sizeOf 14 = .ok (.lstore_n 3, 1) := by decide +kernel
theorem dX2_sizeOf_15 : decode cX2_sizeOf 15 = .ok (.lload_n 3, 1) := by decide +kernel
theorem dX2_sizeOf_16 : decode cX2_sizeOf 16 = .ok (.ldc2_w 19, 3) := by decide +kernel
theorem dX2_sizeOf_19 : decode cX2_sizeOf 19 = .ok (.land, 1) := by decide +kernel
theorem dX2_sizeOf_20 : decode cX2_sizeOf 20 = .ok (.l2i, 1) := by decide +kernel
theorem dX2_sizeOf_21 : decode cX2_sizeOf 21 = .ok (.istore 5, 2) := by decide +kernel
theorem dX2_sizeOf_23 : decode cX2_sizeOf 23 = .ok (.iload 5, 2) := by decide +kernel
theorem dX2_sizeOf_25 : decode cX2_sizeOf 25 = .ok (.ifCond .ne 15, 3) := by decide +kernel
theorem dX2_sizeOf_28 : decode cX2_sizeOf 28 = .ok (.lload_n 3, 1) := by decide +kernel
theorem dX2_sizeOf_29 : decode cX2_sizeOf 29 = .ok (.lconst 0, 1) := by decide +kernel
theorem dX2_sizeOf_30 : decode cX2_sizeOf 30 = .ok (.lcmp, 1) := by decide +kernel
theorem dX2_sizeOf_31 : decode cX2_sizeOf 31 = .ok (.ifCond .ne 7, 3) := by decide +kernel
theorem dX2_sizeOf_34 : decode cX2_sizeOf 34 = .ok (.iload_n 2, 1) := by decide +kernel
theorem dX2_sizeOf_35 : decode cX2_sizeOf 35 = .ok (.goto 4, 3) := by decide +kernel
theorem dX2_sizeOf_38 : decode cX2_sizeOf 38 = .ok (.iconst 0, 1) := by decide +kernel
theorem dX2_sizeOf_39 : decode cX2_sizeOf 39 = .ok (.ireturn, 1) := by decide +kernel
theorem dX2_sizeOf_40 : decode cX2_sizeOf 40 = .ok (.iload 5, 2) := by decide +kernel
theorem dX2_sizeOf_42 : decode cX2_sizeOf 42 = .ok (.bipush 33, 2) := by decide +kernel
theorem dX2_sizeOf_44 : decode cX2_sizeOf 44 = .ok (.bipush 126, 2) := by decide +kernel
theorem dX2_sizeOf_46 : decode cX2_sizeOf 46 = .ok (.invokestatic 21, 3) := by decide +kernel
theorem dX2_sizeOf_49 : decode cX2_sizeOf 49 = .ok (.ifCond .ne 5, 3) := by decide +kernel
theorem dX2_sizeOf_52 : decode cX2_sizeOf 52 = .ok (.iconst 0, 1) := by decide +kernel
theorem dX2_sizeOf_53 : decode cX2_sizeOf 53 = .ok (.ireturn, 1) := by decide +kernel
theorem dX2_sizeOf_54 : decode cX2_sizeOf 54 = .ok (.iinc 2 1, 3) := by decide +kernel
theorem dX2_sizeOf_57 : decode cX2_sizeOf 57 = .ok (.goto (-55), 3) := by decide +kernel
theorem dX2_sizeOf_60 : decode cX2_sizeOf 60 = .ok (.bipush 8, 2) := by decide +kernel
theorem dX2_sizeOf_62 : decode cX2_sizeOf 62 = .ok (.ireturn, 1) := by decide +kernel
theorem dX2_append_0 : decode cX2_append 0 = .ok (.iload_n 3, 1) := by decide +kernel
theorem dX2_append_1 : decode cX2_append 1 = .ok (.iconst 1, 1) := by decide +kernel
theorem dX2_append_2 : decode cX2_append 2 = .ok (.isub, 1) := by decide +kernel
theorem dX2_append_3 : decode cX2_append 3 = .ok (.istore 4, 2) := by decide +kernel
theorem dX2_append_5 : decode cX2_append 5 = .ok (.iload 4, 2) := by decide +kernel
theorem dX2_append_7 : decode cX2_append 7 = .ok (.ifCond .lt 50, 3) := by decide +kernel
theorem dX2_append_10 : decode cX2_append 10 = .ok (.aload_n 0, 1) := by decide +kernel
theorem dX2_append_11 : decode cX2_append 11 = .ok (.getfield 9, 3) := by decide +kernel
theorem dX2_append_14 : decode cX2_append 14 = .ok (.bipush 80, 2) := by decide +kernel
theorem dX2_append_16 : decode cX2_append 16 = .ok (.if_icmp .ge 35, 3) := by decide +kernel
theorem dX2_append_19 : decode cX2_append 19 = .ok (.aload_n 0, 1) := by decide +kernel
theorem dX2_append_20 : decode cX2_append 20 = .ok (.getfield 15, 3) := by decide +kernel
theorem dX2_append_23 : decode cX2_append 23 = .ok (.aload_n 0, 1) := by decide +kernel
theorem dX2_append_24 : decode cX2_append 24 = .ok (.getfield 9, 3) := by decide +kernel
theorem dX2_append_27 : decode cX2_append 27 = .ok (.lload_n 1, 1) := by decide +kernel
theorem dX2_append_28 : decode cX2_append 28 = .ok (.bipush 8, 2) := by decide +kernel
theorem dX2_append_30 : decode cX2_append 30 = .ok (.iload 4, 2) := by decide +kernel
theorem dX2_append_32 : decode cX2_append 32 = .ok (.imul, 1) := by decide +kernel
theorem dX2_append_33 : decode cX2_append 33 = .ok (.lushr, 1) := by decide +kernel
theorem dX2_append_34 : decode cX2_append 34 = .ok (.ldc2_w 19, 3) := by decide +kernel
theorem dX2_append_37 : decode cX2_append 37 = .ok (.land, 1) := by decide +kernel
theorem dX2_append_38 : decode cX2_append 38 = .ok (.l2i, 1) := by decide +kernel
theorem dX2_append_39 : decode cX2_append 39 = .ok (.i2c, 1) := by decide +kernel
theorem dX2_append_40 : decode cX2_append 40 = .ok (.castore, 1) := by decide +kernel
theorem dX2_append_41 : decode cX2_append 41 = .ok (.aload_n 0, 1) := by decide +kernel
theorem dX2_append_42 : decode cX2_append 42 = .ok (.dup, 1) := by decide +kernel
theorem dX2_append_43 : decode cX2_append 43 = .ok (.getfield 9, 3) := by decide +kernel
theorem dX2_append_46 : decode cX2_append 46 = .ok (.iconst 1, 1) := by decide +kernel
theorem dX2_append_47 : decode cX2_append 47 = .ok (.iadd, 1) := by decide +kernel
theorem dX2_append_48 : decode cX2_append 48 = .ok (.putfield 9, 3) := by decide +kernel
theorem dX2_append_51 : decode cX2_append 51 = .ok (.iinc 4 (-1), 3) := by decide +kernel
theorem dX2_append_54 : decode cX2_append 54 = .ok (.goto (-49), 3) := by decide +kernel
theorem dX2_append_57 : decode cX2_append 57 = .ok (.return_, 1) := by decide +kernel
theorem dX2_firstFault_0 : decode cX2_firstFault 0 = .ok (.aload_n 1, 1) := by decide +kernel
theorem dX2_firstFault_1 : decode cX2_firstFault 1 = .ok (.invokevirtual 25, 3) := by decide +kernel
theorem dX2_firstFault_4 : decode cX2_firstFault 4 = .ok (.iconst 0, 1) := by decide +kernel
theorem dX2_firstFault_5 : decode cX2_firstFault 5 = .ok (.istore_n 2, 1) := by decide +kernel
theorem dX2_firstFault_6 : decode cX2_firstFault 6 = .ok (.iload_n 2, 1) := by decide +kernel
theorem dX2_firstFault_7 : decode cX2_firstFault 7 = .ok (.aload_n 0, 1) := by decide +kernel
theorem dX2_firstFault_8 : decode cX2_firstFault 8 = .ok (.getfield 9, 3) := by decide +kernel
theorem dX2_firstFault_11 : decode cX2_firstFault 11 = .ok (.if_icmp .ge 24, 3) := by decide +kernel
theorem dX2_firstFault_14 : decode cX2_firstFault 14 = .ok (.aload_n 1, 1) := by decide +kernel
theorem dX2_firstFault_15 : decode cX2_firstFault 15 = .ok (.aload_n 0, 1) := by decide +kernel
theorem dX2_firstFault_16 : decode cX2_firstFault 16 = .ok (.getfield 15, 3) := by decide +kernel
theorem dX2_firstFault_19 : decode cX2_firstFault 19 = .ok (.iload_n 2, 1) := by decide +kernel
theorem dX2_firstFault_20 : decode cX2_firstFault 20 = .ok (.caload, 1) := by decide +kernel
theorem dX2_firstFault_21 : decode cX2_firstFault 21 = .ok (.invokevirtual 30, 3) := by decide +kernel
theorem dX2_firstFault_24 : decode cX2_firstFault 24 = .ok (.ifCond .ne 5, 3) := by decide +kernel
theorem dX2_firstFault_27 : decode cX2_firstFault 27 = .ok (.iload_n 2, 1) := by decide +kernel
theorem dX2_firstFault_28 : decode cX2_firstFault 28 = .ok (.ireturn, 1) := by decide +kernel
theorem dX2_firstFault_29 : decode cX2_firstFault 29 = .ok (.iinc 2 1, 3) := by decide +kernel
theorem dX2_firstFault_32 : decode cX2_firstFault 32 = .ok (.goto (-26), 3) := by decide +kernel
theorem dX2_firstFault_35 : decode cX2_firstFault 35 = .ok (.aload_n 1, 1) := by decide +kernel
theorem dX2_firstFault_36 : decode cX2_firstFault 36 = .ok (.invokevirtual 34, 3) := by decide +kernel
theorem dX2_firstFault_39 : decode cX2_firstFault 39 = .ok (.ifCond .eq 8, 3) := by decide +kernel
theorem dX2_firstFault_42 : decode cX2_firstFault 42 = .ok (.bipush (-6), 2) := by decide +kernel
theorem dX2_firstFault_44 : decode cX2_firstFault 44 = .ok (.goto 7, 3) := by decide +kernel
theorem dX2_firstFault_47 : decode cX2_firstFault 47 = .ok (.aload_n 0, 1) := by decide +kernel
theorem dX2_firstFault_48 : decode cX2_firstFault 48 = .ok (.getfield 9, 3) := by decide +kernel
theorem dX2_firstFault_51 : decode cX2_firstFault 51 = .ok (.ireturn, 1) := by decide +kernel
theorem dX3_init_0 : decode cX3_init 0 = .ok (.aload_n 0, 1) := by decide +kernel
theorem dX3_init_1 : decode cX3_init 1 = .ok (.invokespecial 3, 3) := by decide +kernel
theorem dX3_init_4 : decode cX3_init 4 = .ok (.aload_n 0, 1) := by decide +kernel
theorem dX3_init_5 : decode cX3_init 5 = .ok (.iconst 1, 1) := by decide +kernel
theorem dX3_init_6 : decode cX3_init 6 = .ok (.putfield 9, 3) := by decide +kernel
theorem dX3_init_9 : decode cX3_init 9 = .ok (.aload_n 0, 1) := by decide +kernel
theorem dX3_init_10 : decode cX3_init 10 = .ok (.bipush 60, 2) := by decide +kernel
theorem dX3_init_12 : decode cX3_init 12 = .ok (.putfield 15, 3) := by decide +kernel
theorem dX3_init_15 : decode cX3_init 15 = .ok (.aload_n 0, 1) := by decide +kernel
theorem dX3_init_16 : decode cX3_init 16 = .ok (.iconst 0, 1) := by decide +kernel
theorem dX3_init_17 : decode cX3_init 17 = .ok (.putfield 18, 3) := by decide +kernel
theorem dX3_init_20 : decode cX3_init 20 = .ok (.aload_n 0, 1) := by decide +kernel
theorem dX3_init_21 : decode cX3_init 21 = .ok (.bipush 10, 2) := by decide +kernel
theorem dX3_init_23 : decode cX3_init 23 = .ok (.newarray .int, 2) := by decide +kernel
theorem dX3_init_25 : decode cX3_init 25 = .ok (.putfield 21, 3) := by decide +kernel
theorem dX3_init_28 : decode cX3_init 28 = .ok (.aload_n 0, 1) := by decide +kernel
theorem dX3_init_29 : decode cX3_init 29 = .ok (.bipush 80, 2) := by decide +kernel
theorem dX3_init_31 : decode cX3_init 31 = .ok (.newarray .int, 2) := by decide +kernel
theorem dX3_init_33 : decode cX3_init 33 = .ok (.putfield 25, 3) := by decide +kernel
theorem dX3_init_36 : decode cX3_init 36 = .ok (.return_, 1) := by decide +kernel
theorem dX3_copyFrom_0 : decode cX3_copyFrom 0 = .ok (.aload_n 0, 1) := by decide +kernel
theorem dX3_copyFrom_1 : decode cX3_copyFrom 1 = .ok (.aload_n 1, 1) := by decide +kernel
theorem dX3_copyFrom_2 : decode cX3_copyFrom 2 = .ok (.getfield 9, 3) := by decide +kernel
theorem dX3_copyFrom_5 : decode cX3_copyFrom 5 = .ok (.putfield 9, 3) := by decide +kernel
theorem dX3_copyFrom_8 : decode cX3_copyFrom 8 = .ok (.aload_n 0, 1) := by decide +kernel
theorem dX3_copyFrom_9 : decode cX3_copyFrom 9 = .ok (.aload_n 1, 1) := by decide +kernel
theorem dX3_copyFrom_10 : decode cX3_copyFrom 10 = .ok (.getfield 15, 3) := by decide +kernel
theorem dX3_copyFrom_13 : decode cX3_copyFrom 13 = .ok (.putfield 15, 3) := by decide +kernel
theorem dX3_copyFrom_16 : decode cX3_copyFrom 16 = .ok (.aload_n 0, 1) := by decide +kernel
theorem dX3_copyFrom_17 : decode cX3_copyFrom 17 = .ok (.aload_n 1, 1) := by decide +kernel
theorem dX3_copyFrom_18 : decode cX3_copyFrom 18 = .ok (.getfield 18, 3) := by decide +kernel
theorem dX3_copyFrom_21 : decode cX3_copyFrom 21 = .ok (.putfield 18, 3) := by decide +kernel
theorem dX3_copyFrom_24 : decode cX3_copyFrom 24 = .ok (.aload_n 1, 1) := by decide +kernel
theorem dX3_copyFrom_25 : decode cX3_copyFrom 25 = .ok (.getfield 21, 3) := by decide +kernel
theorem dX3_copyFrom_28 : decode cX3_copyFrom 28 = .ok (.iconst 0, 1) := by decide +kernel
theorem dX3_copyFrom_29 : decode cX3_copyFrom 29 = .ok (.aload_n 0, 1) := by decide +kernel
theorem dX3_copyFrom_30 : decode cX3_copyFrom 30 = .ok (.getfield 21, 3) := by decide +kernel
theorem dX3_copyFrom_33 : decode cX3_copyFrom 33 = .ok (.iconst 0, 1) := by decide +kernel
theorem dX3_copyFrom_34 : decode cX3_copyFrom 34 = .ok (.bipush 10, 2) := by decide +kernel
theorem dX3_copyFrom_36 : decode cX3_copyFrom 36 = .ok (.invokestatic 28, 3) := by decide +kernel
theorem dX3_copyFrom_39 : decode cX3_copyFrom 39 = .ok (.aload_n 1, 1) := by decide +kernel
theorem dX3_copyFrom_40 : decode cX3_copyFrom 40 = .ok (.getfield 25, 3) := by decide +kernel
theorem dX3_copyFrom_43 : decode cX3_copyFrom 43 = .ok (.iconst 0, 1) := by decide +kernel
theorem dX3_copyFrom_44 : decode cX3_copyFrom 44 = .ok (.aload_n 0, 1) := by decide +kernel
theorem dX3_copyFrom_45 : decode cX3_copyFrom 45 = .ok (.getfield 25, 3) := by decide +kernel
theorem dX3_copyFrom_48 : decode cX3_copyFrom 48 = .ok (.iconst 0, 1) := by decide +kernel
theorem dX3_copyFrom_49 : decode cX3_copyFrom 49 = .ok (.bipush 80, 2) := by decide +kernel
theorem dX3_copyFrom_51 : decode cX3_copyFrom 51 = .ok (.invokestatic 28, 3) := by decide +kernel
theorem dX3_copyFrom_54 : decode cX3_copyFrom 54 = .ok (.return_, 1) := by decide +kernel
theorem dX3_hasRoom_0 : decode cX3_hasRoom 0 = .ok (.aload_n 0, 1) := by decide +kernel
theorem dX3_hasRoom_1 : decode cX3_hasRoom 1 = .ok (.getfield 21, 3) := by decide +kernel
theorem dX3_hasRoom_4 : decode cX3_hasRoom 4 = .ok (.iload_n 1, 1) := by decide +kernel
theorem dX3_hasRoom_5 : decode cX3_hasRoom 5 = .ok (.iaload, 1) := by decide +kernel
theorem dX3_hasRoom_6 : decode cX3_hasRoom 6 = .ok (.bipush 8, 2) := by decide +kernel
theorem dX3_hasRoom_8 : decode cX3_hasRoom 8 = .ok (.if_icmp .ge 7, 3) := by decide +kernel
theorem dX3_hasRoom_11 : decode cX3_hasRoom 11 = .ok (.iconst 1, 1) := by decide +kernel
theorem dX3_hasRoom_12 : decode cX3_hasRoom 12 = .ok (.goto 4, 3) := by decide +kernel
theorem dX3_hasRoom_15 : decode cX3_hasRoom 15 = .ok (.iconst 0, 1) := by decide +kernel
theorem dX3_hasRoom_16 : decode cX3_hasRoom 16 = .ok (.ireturn, 1) := by decide +kernel
theorem dX3_addMark_0 : decode cX3_addMark 0 = .ok (.aload_n 0, 1) := by decide +kernel
theorem dX3_addMark_1 : decode cX3_addMark 1 = .ok (.iload_n 1, 1) := by decide +kernel
theorem dX3_addMark_2 : decode cX3_addMark 2 = .ok (.invokevirtual 34, 3) := by decide +kernel
theorem dX3_addMark_5 : decode cX3_addMark 5 = .ok (.ifCond .ne 4, 3) := by decide +kernel
theorem dX3_addMark_8 : decode cX3_addMark 8 = .ok (.return_, 1) := by decide +kernel
theorem dX3_addMark_9 : decode cX3_addMark 9 = .ok (.aload_n 0, 1) := by decide +kernel
theorem dX3_addMark_10 : decode cX3_addMark 10 = .ok (.getfield 25, 3) := by decide +kernel
theorem dX3_addMark_13 : decode cX3_addMark 13 = .ok (.iload_n 1, 1) := by decide +kernel
theorem dX3_addMark_14 : decode cX3_addMark 14 = .ok (.bipush 8, 2) := by decide +kernel
theorem dX3_addMark_16 : decode cX3_addMark 16 = .ok (.imul, 1) := by decide +kernel
theorem dX3_addMark_17 : decode cX3_addMark 17 = .ok (.aload_n 0, 1) := by decide +kernel
theorem dX3_addMark_18 : decode cX3_addMark 18 = .ok (.getfield 21, 3) := by decide +kernel
theorem dX3_addMark_21 : decode cX3_addMark 21 = .ok (.iload_n 1, 1) := by decide +kernel
theorem dX3_addMark_22 : decode cX3_addMark 22 = .ok (.iaload, 1) := by decide +kernel
theorem dX3_addMark_23 : decode cX3_addMark 23 = .ok (.iadd, 1) := by decide +kernel
theorem dX3_addMark_24 : decode cX3_addMark 24 = .ok (.iload_n 2, 1) := by decide +kernel
theorem dX3_addMark_25 : decode cX3_addMark 25 = .ok (.iconst 5, 1) := by decide +kernel
theorem dX3_addMark_26 : decode cX3_addMark 26 = .ok (.ishl, 1) := by decide +kernel
theorem dX3_addMark_27 : decode cX3_addMark 27 = .ok (.iload_n 3, 1) := by decide +kernel
theorem dX3_addMark_28 : decode cX3_addMark 28 = .ok (.iconst 1, 1) := by decide +kernel
theorem dX3_addMark_29 : decode cX3_addMark 29 = .ok (.ishl, 1) := by decide +kernel
theorem dX3_addMark_30 : decode cX3_addMark 30 = .ok (.ior, 1) := by decide +kernel
theorem dX3_addMark_31 : decode cX3_addMark 31 = .ok (.iastore, 1) := by decide +kernel
theorem dX3_addMark_32 : decode cX3_addMark 32 = .ok (.aload_n 0, 1) := by decide +kernel
theorem dX3_addMark_33 : decode cX3_addMark 33 = .ok (.getfield 21, 3) := by decide +kernel
theorem dX3_addMark_36 : decode cX3_addMark 36 = .ok (.iload_n 1, 1) := by decide +kernel
theorem dX3_addMark_37 : decode cX3_addMark 37 = .ok (.dup2, 1) := by decide +kernel
theorem dX3_addMark_38 : decode cX3_addMark 38 = .ok (.iaload, 1) := by decide +kernel
theorem dX3_addMark_39 : decode cX3_addMark 39 = .ok (.iconst 1, 1) := by decide +kernel
theorem dX3_addMark_40 : decode cX3_addMark 40 = .ok (.iadd, 1) := by decide +kernel
theorem dX3_addMark_41 : decode cX3_addMark 41 = .ok (.iastore, 1) := by decide +kernel
theorem dX3_addMark_42 : decode cX3_addMark 42 = .ok (.return_, 1) := by decide +kernel
theorem dX3_valueAt_0 : decode cX3_valueAt 0 = .ok (.aload_n 0, 1) := by decide +kernel
theorem dX3_valueAt_1 : decode cX3_valueAt 1 = .ok (.getfield 25, 3) := by decide +kernel
theorem dX3_valueAt_4 : decode cX3_valueAt 4 = .ok (.iload_n 1, 1) := by decide +kernel
theorem dX3_valueAt_5 : decode cX3_valueAt 5 = .ok (.bipush 8, 2) := by decide +kernel
theorem dX3_valueAt_7 : decode cX3_valueAt 7 = .ok (.imul, 1) := by decide +kernel
theorem dX3_valueAt_8 : decode cX3_valueAt 8 = .ok (.iload_n 2, 1) := by decide +kernel
theorem dX3_valueAt_9 : decode cX3_valueAt 9 = .ok (.iadd, 1) := by decide +kernel
theorem dX3_valueAt_10 : decode cX3_valueAt 10 = .ok (.iaload, 1) := by decide +kernel
theorem dX3_valueAt_11 : decode cX3_valueAt 11 = .ok (.iconst 5, 1) := by decide +kernel
theorem dX3_valueAt_12 : decode cX3_valueAt 12 = .ok (.ishr, 1) := by decide +kernel
theorem dX3_valueAt_13 : decode cX3_valueAt 13 = .ok (.ireturn, 1) := by decide +kernel
theorem dX3_strengthAt_0 : decode cX3_strengthAt 0 = .ok (.aload_n 0, 1) := by decide +kernel
theorem dX3_strengthAt_1 : decode cX3_strengthAt 1 = .ok (.getfield 25, 3) := by decide +kernel
theorem dX3_strengthAt_4 : decode cX3_strengthAt 4 = .ok (.iload_n 1, 1) := by decide +kernel
theorem dX3_strengthAt_5 : decode cX3_strengthAt 5 = .ok (.bipush 8, 2) := by decide +kernel
theorem dX3_strengthAt_7 : decode cX3_strengthAt 7 = .ok (.imul, 1) := by decide +kernel
theorem dX3_strengthAt_8 : decode cX3_strengthAt 8 = .ok (.iload_n 2, 1) := by decide +kernel
theorem dX3_strengthAt_9 : decode cX3_strengthAt 9 = .ok (.iadd, 1) := by decide +kernel
theorem dX3_strengthAt_10 : decode cX3_strengthAt 10 = .ok (.iaload, 1) := by decide +kernel
theorem dX3_strengthAt_11 : decode cX3_strengthAt 11 = .ok (.iconst 1, 1) := by decide +kernel
theorem dX3_strengthAt_12 : decode cX3_strengthAt 12 = .ok (.ishr, 1) := by decide +kernel
theorem dX3_strengthAt_13 : decode cX3_strengthAt 13 = .ok (.bipush 15, 2) := by decide +kernel
theorem dX3_strengthAt_15 : decode cX3_strengthAt 15 = .ok (.iand, 1) := by decide +kernel
theorem dX3_strengthAt_16 : decode cX3_strengthAt 16 = .ok (.ireturn, 1) := by decide +kernel
theorem dX3_isStruck_0 : decode cX3_isStruck 0 = .ok (.aload_n 0, 1) := by decide +kernel
theorem dX3_isStruck_1 : decode cX3_isStruck 1 = .ok (.getfield 25, 3) := by decide +kernel
theorem dX3_isStruck_4 : decode cX3_isStruck 4 = .ok (.iload_n 1, 1) := by decide +kernel
theorem dX3_isStruck_5 : decode cX3_isStruck 5 = .ok (.bipush 8, 2) := by decide +kernel
theorem dX3_isStruck_7 : decode cX3_isStruck 7 = .ok (.imul, 1) := by decide +kernel
theorem dX3_isStruck_8 : decode cX3_isStruck 8 = .ok (.iload_n 2, 1) := by decide +kernel
theorem dX3_isStruck_9 : decode cX3_isStruck 9 = .ok (.iadd, 1) := by decide +kernel
theorem dX3_isStruck_10 : decode cX3_isStruck 10 = .ok (.iaload, 1) := by decide +kernel
theorem dX3_isStruck_11 : decode cX3_isStruck 11 = .ok (.iconst 1, 1) := by decide +kernel
theorem dX3_isStruck_12 : decode cX3_isStruck 12 = .ok (.iand, 1) := by decide +kernel
theorem dX3_isStruck_13 : decode cX3_isStruck 13 = .ok (.ifCond .eq 7, 3) := by decide +kernel
theorem dX3_isStruck_16 : decode cX3_isStruck 16 = .ok (.iconst 1, 1) := by decide +kernel
theorem dX3_isStruck_17 : decode cX3_isStruck 17 = .ok (.goto 4, 3) := by decide +kernel
theorem dX3_isStruck_20 : decode cX3_isStruck 20 = .ok (.iconst 0, 1) := by decide +kernel
theorem dX3_isStruck_21 : decode cX3_isStruck 21 = .ok (.ireturn, 1) := by decide +kernel
theorem dX3_isReadable_0 : decode cX3_isReadable 0 = .ok (.aload_n 0, 1) := by decide +kernel
theorem dX3_isReadable_1 : decode cX3_isReadable 1 = .ok (.getfield 25, 3) := by decide +kernel
theorem dX3_isReadable_4 : decode cX3_isReadable 4 = .ok (.iload_n 1, 1) := by decide +kernel
theorem dX3_isReadable_5 : decode cX3_isReadable 5 = .ok (.bipush 8, 2) := by decide +kernel
theorem dX3_isReadable_7 : decode cX3_isReadable 7 = .ok (.imul, 1) := by decide +kernel
theorem dX3_isReadable_8 : decode cX3_isReadable 8 = .ok (.iload_n 2, 1) := by decide +kernel
theorem dX3_isReadable_9 : decode cX3_isReadable 9 = .ok (.iadd, 1) := by decide +kernel
theorem dX3_isReadable_10 : decode cX3_isReadable 10 = .ok (.iaload, 1) := by decide +kernel
theorem dX3_isReadable_11 : decode cX3_isReadable 11 = .ok (.istore 4, 2) := by decide +kernel
theorem dX3_isReadable_13 : decode cX3_isReadable 13 = .ok (.iload 4, 2) := by decide +kernel
theorem dX3_isReadable_15 : decode cX3_isReadable 15 = .ok (.iconst 1, 1) := by decide +kernel
theorem dX3_isReadable_16 : decode cX3_isReadable 16 = .ok (.iand, 1) := by decide +kernel
theorem dX3_isReadable_17 : decode cX3_isReadable 17 = .ok (.ifCond .ne 18, 3) := by decide +kernel
theorem dX3_isReadable_20 : decode cX3_isReadable 20 = .ok (.iload 4, 2) := by decide +kernel
theorem dX3_isReadable_22 : decode cX3_isReadable 22 = .ok (.iconst 1, 1) := by decide +kernel
theorem dX3_isReadable_23 : decode cX3_isReadable 23 = .ok (.ishr, 1) := by decide +kernel
theorem dX3_isReadable_24 : decode cX3_isReadable 24 = .ok (.bipush 15, 2) := by decide +kernel
theorem dX3_isReadable_26 : decode cX3_isReadable 26 = .ok (.iand, 1) := by decide +kernel
theorem dX3_isReadable_27 : decode cX3_isReadable 27 = .ok (.iload_n 3, 1) := by decide +kernel
theorem dX3_isReadable_28 : decode cX3_isReadable 28 = .ok (.if_icmp .lt 7, 3) := by decide +kernel
theorem dX3_isReadable_31 : decode cX3_isReadable 31 = .ok (.iconst 1, 1) := by decide +kernel
theorem dX3_isReadable_32 : decode cX3_isReadable 32 = .ok (.goto 4, 3) := by decide +kernel
theorem dX3_isReadable_35 : decode cX3_isReadable 35 = .ok (.iconst 0, 1) := by decide +kernel
theorem dX3_isReadable_36 : decode cX3_isReadable 36 = .ok (.ireturn, 1) := by decide +kernel
theorem dX3_strikeUpTo_0 : decode cX3_strikeUpTo 0 = .ok (.iconst 0, 1) := by decide +kernel
theorem dX3_strikeUpTo_1 : decode cX3_strikeUpTo 1 = .ok (.istore_n 3, 1) := by decide +kernel
theorem dX3_strikeUpTo_2 : decode cX3_strikeUpTo 2 = .ok (.iconst 0, 1) := by decide +kernel
theorem dX3_strikeUpTo_3 : decode cX3_strikeUpTo 3 = .ok (.istore 4, 2) := by decide +kernel
theorem dX3_strikeUpTo_5 : decode cX3_strikeUpTo 5 = .ok (.iload 4, 2) := by decide +kernel
theorem dX3_strikeUpTo_7 : decode cX3_strikeUpTo 7 = .ok (.aload_n 0, 1) := by decide +kernel
theorem dX3_strikeUpTo_8 : decode cX3_strikeUpTo 8 = .ok (.getfield 21, 3) := by decide +kernel
theorem dX3_strikeUpTo_11 : decode cX3_strikeUpTo 11 = .ok (.iload_n 1, 1) := by decide +kernel
theorem dX3_strikeUpTo_12 : decode cX3_strikeUpTo 12 = .ok (.iaload, 1) := by decide +kernel
theorem dX3_strikeUpTo_13 : decode cX3_strikeUpTo 13 = .ok (.if_icmp .ge 49, 3) := by decide +kernel
theorem dX3_strikeUpTo_16 : decode cX3_strikeUpTo 16 = .ok (.aload_n 0, 1) := by decide +kernel
theorem dX3_strikeUpTo_17 : decode cX3_strikeUpTo 17 = .ok (.iload_n 1, 1) := by decide +kernel
theorem dX3_strikeUpTo_18 : decode cX3_strikeUpTo 18 = .ok (.iload 4, 2) := by decide +kernel
theorem dX3_strikeUpTo_20 : decode cX3_strikeUpTo 20 = .ok (.invokevirtual 38, 3) := by decide +kernel
theorem dX3_strikeUpTo_23 : decode cX3_strikeUpTo 23 = .ok (.ifCond .ne 33, 3) := by decide +kernel
theorem dX3_strikeUpTo_26 : decode cX3_strikeUpTo 26 = .ok (.aload_n 0, 1) := by decide +kernel
theorem dX3_strikeUpTo_27 : decode cX3_strikeUpTo 27 = .ok (.iload_n 1, 1) := by decide +kernel
theorem dX3_strikeUpTo_28 : decode cX3_strikeUpTo 28 = .ok (.iload 4, 2) := by decide +kernel
theorem dX3_strikeUpTo_30 : decode cX3_strikeUpTo 30 = .ok (.invokevirtual 42, 3) := by decide +kernel
theorem dX3_strikeUpTo_33 : decode cX3_strikeUpTo 33 = .ok (.iload_n 2, 1) := by decide +kernel
theorem dX3_strikeUpTo_34 : decode cX3_strikeUpTo 34 = .ok (.if_icmp .gt 22, 3) := by decide +kernel
theorem dX3_strikeUpTo_37 : decode cX3_strikeUpTo 37 = .ok (.aload_n 0, 1) := by decide +kernel
theorem dX3_strikeUpTo_38 : decode cX3_strikeUpTo 38 = .ok (.getfield 25, 3) := by decide +kernel
theorem dX3_strikeUpTo_41 : decode cX3_strikeUpTo 41 = .ok (.iload_n 1, 1) := by decide +kernel
theorem dX3_strikeUpTo_42 : decode cX3_strikeUpTo 42 = .ok (.bipush 8, 2) := by decide +kernel
theorem dX3_strikeUpTo_44 : decode cX3_strikeUpTo 44 = .ok (.imul, 1) := by decide +kernel
theorem dX3_strikeUpTo_45 : decode cX3_strikeUpTo 45 = .ok (.iload 4, 2) := by decide +kernel
theorem dX3_strikeUpTo_47 : decode cX3_strikeUpTo 47 = .ok (.iadd, 1) := by decide +kernel
theorem dX3_strikeUpTo_48 : decode cX3_strikeUpTo 48 = .ok (.dup2, 1) := by decide +kernel
theorem dX3_strikeUpTo_49 : decode cX3_strikeUpTo 49 = .ok (.iaload, 1) := by decide +kernel
theorem dX3_strikeUpTo_50 : decode cX3_strikeUpTo 50 = .ok (.iconst 1, 1) := by decide +kernel
theorem dX3_strikeUpTo_51 : decode cX3_strikeUpTo 51 = .ok (.ior, 1) := by decide +kernel
theorem dX3_strikeUpTo_52 : decode cX3_strikeUpTo 52 = .ok (.iastore, 1) := by decide +kernel
theorem dX3_strikeUpTo_53 : decode cX3_strikeUpTo 53 = .ok (.iinc 3 1, 3) := by decide +kernel
theorem dX3_strikeUpTo_56 : decode cX3_strikeUpTo 56 = .ok (.iinc 4 1, 3) := by decide +kernel
theorem dX3_strikeUpTo_59 : decode cX3_strikeUpTo 59 = .ok (.goto (-54), 3) := by decide +kernel
theorem dX3_strikeUpTo_62 : decode cX3_strikeUpTo 62 = .ok (.iload_n 3, 1) := by decide +kernel
theorem dX3_strikeUpTo_63 : decode cX3_strikeUpTo 63 = .ok (.ireturn, 1) := by decide +kernel
theorem dX3_lastReadable_0 : decode cX3_lastReadable 0 = .ok (.aload_n 0, 1) := by decide +kernel
theorem dX3_lastReadable_1 : decode cX3_lastReadable 1 = .ok (.getfield 21, 3) := by decide +kernel
theorem dX3_lastReadable_4 : decode cX3_lastReadable 4 = .ok (.iload_n 1, 1) := by decide +kernel
theorem dX3_lastReadable_5 : decode cX3_lastReadable 5 = .ok (.iaload, 1) := by decide +kernel
theorem dX3_lastReadable_6 : decode cX3_lastReadable 6 = .ok (.iconst 1, 1) := by decide +kernel
theorem dX3_lastReadable_7 : decode cX3_lastReadable 7 = .ok (.isub, 1) := by decide +kernel
theorem dX3_lastReadable_8 : decode cX3_lastReadable 8 = .ok (.istore_n 3, 1) := by decide +kernel
theorem dX3_lastReadable_9 : decode cX3_lastReadable 9 = .ok (.iload_n 3, 1) := by decide +kernel
theorem dX3_lastReadable_10 : decode cX3_lastReadable 10 = .ok (.ifCond .lt 21, 3) := by decide +kernel
theorem dX3_lastReadable_13 : decode cX3_lastReadable 13 = .ok (.aload_n 0, 1) := by decide +kernel
theorem dX3_lastReadable_14 : decode cX3_lastReadable 14 = .ok (.iload_n 1, 1) := by decide +kernel
theorem dX3_lastReadable_15 : decode cX3_lastReadable 15 = .ok (.iload_n 3, 1) := by decide +kernel
theorem dX3_lastReadable_16 : decode cX3_lastReadable 16 = .ok (.iload_n 2, 1) := by decide +kernel
theorem dX3_lastReadable_17 : decode cX3_lastReadable 17 = .ok (.invokevirtual 46, 3) := by decide +kernel
theorem dX3_lastReadable_20 : decode cX3_lastReadable 20 = .ok (.ifCond .eq 5, 3) := by decide +kernel
theorem dX3_lastReadable_23 : decode cX3_lastReadable 23 = .ok (.iload_n 3, 1) := by decide +kernel
theorem dX3_lastReadable_24 : decode cX3_lastReadable 24 = .ok (.ireturn, 1) := by decide +kernel
theorem dX3_lastReadable_25 : decode cX3_lastReadable 25 = .ok (.iinc 3 (-1), 3) := by decide +kernel
theorem dX3_lastReadable_28 : decode cX3_lastReadable 28 = .ok (.goto (-19), 3) := by decide +kernel
theorem dX3_lastReadable_31 : decode cX3_lastReadable 31 = .ok (.bipush (-6), 2) := by decide +kernel
theorem dX3_lastReadable_33 : decode cX3_lastReadable 33 = .ok (.ireturn, 1) := by decide +kernel
theorem dX3_readableMarks_0 : decode cX3_readableMarks 0 = .ok (.iconst 0, 1) := by decide +kernel
theorem dX3_readableMarks_1 : decode cX3_readableMarks 1 = .ok (.istore_n 3, 1) := by decide +kernel
theorem dX3_readableMarks_2 : decode cX3_readableMarks 2 = .ok (.iconst 0, 1) := by decide +kernel
theorem dX3_readableMarks_3 : decode cX3_readableMarks 3 = .ok (.istore 4, 2) := by decide +kernel
theorem dX3_readableMarks_5 : decode cX3_readableMarks 5 = .ok (.iload 4, 2) := by decide +kernel
theorem dX3_readableMarks_7 : decode cX3_readableMarks 7 = .ok (.aload_n 0, 1) := by decide +kernel
theorem dX3_readableMarks_8 : decode cX3_readableMarks 8 = .ok (.getfield 21, 3) := by decide +kernel
theorem dX3_readableMarks_11 : decode cX3_readableMarks 11 = .ok (.iload_n 1, 1) := by decide +kernel
theorem dX3_readableMarks_12 : decode cX3_readableMarks 12 = .ok (.iaload, 1) := by decide +kernel
theorem dX3_readableMarks_13 : decode cX3_readableMarks 13 = .ok (.if_icmp .ge 23, 3) := by decide +kernel
theorem dX3_readableMarks_16 : decode cX3_readableMarks 16 = .ok (.aload_n 0, 1) := by decide +kernel
theorem dX3_readableMarks_17 : decode cX3_readableMarks 17 = .ok (.iload_n 1, 1) := by decide +kernel
theorem dX3_readableMarks_18 : decode cX3_readableMarks 18 = .ok (.iload 4, 2) := by decide +kernel
theorem dX3_readableMarks_20 : decode cX3_readableMarks 20 = .ok (.iload_n 2, 1) := by decide +kernel
theorem dX3_readableMarks_21 : decode cX3_readableMarks 21 = .ok (.invokevirtual 46, 3) := by decide +kernel
theorem dX3_readableMarks_24 : decode cX3_readableMarks 24 = .ok (.ifCond .eq 6, 3) := by decide +kernel
theorem dX3_readableMarks_27 : decode cX3_readableMarks 27 = .ok (.iinc 3 1, 3) := by decide +kernel
theorem dX3_readableMarks_30 : decode cX3_readableMarks 30 = .ok (.iinc 4 1, 3) := by decide +kernel
theorem dX3_readableMarks_33 : decode cX3_readableMarks 33 = .ok (.goto (-28), 3) := by decide +kernel
theorem dX3_readableMarks_36 : decode cX3_readableMarks 36 = .ok (.iload_n 3, 1) := by decide +kernel
theorem dX3_readableMarks_37 : decode cX3_readableMarks 37 = .ok (.ireturn, 1) := by decide +kernel
theorem dX3_strongestReadable_0 : decode cX3_strongestReadable 0 = .ok (.iconst 0, 1) := by decide +kernel
theorem dX3_strongestReadable_1 : decode cX3_strongestReadable 1 = .ok (.istore_n 3, 1) := by decide +kernel
theorem dX3_strongestReadable_2 : decode cX3_strongestReadable 2 = .ok (.iconst 0, 1) := by decide +kernel
theorem dX3_strongestReadable_3 : decode cX3_strongestReadable 3 = .ok (.istore 4, 2) := by decide +kernel
theorem dX3_strongestReadable_5 : decode cX3_strongestReadable 5 = .ok (.iload 4, 2) := by decide +kernel
theorem dX3_strongestReadable_7 : decode cX3_strongestReadable 7 = .ok (.aload_n 0, 1) := by decide +kernel
theorem dX3_strongestReadable_8 : decode cX3_strongestReadable 8 = .ok (.getfield 21, 3) := by decide +kernel
theorem dX3_strongestReadable_11 : decode cX3_strongestReadable 11 = .ok (.iload_n 1, 1) := by decide +kernel
theorem dX3_strongestReadable_12 : decode cX3_strongestReadable 12 = .ok (.iaload, 1) := by decide +kernel
theorem dX3_strongestReadable_13 : decode cX3_strongestReadable 13 = .ok (.if_icmp .ge 32, 3) := by decide +kernel
theorem dX3_strongestReadable_16 : decode cX3_strongestReadable 16 = .ok (.aload_n 0, 1) := by decide +kernel
theorem dX3_strongestReadable_17 : decode cX3_strongestReadable 17 = .ok (.iload_n 1, 1) := by decide +kernel
theorem dX3_strongestReadable_18 : decode cX3_strongestReadable 18 = .ok (.iload 4, 2) := by decide +kernel
theorem dX3_strongestReadable_20 : decode cX3_strongestReadable 20 = .ok (.iload_n 2, 1) := by decide +kernel
theorem dX3_strongestReadable_21 : decode cX3_strongestReadable 21 = .ok (.invokevirtual 46, 3) := by decide +kernel
theorem dX3_strongestReadable_24 : decode cX3_strongestReadable 24 = .ok (.ifCond .eq 15, 3) := by decide +kernel
theorem dX3_strongestReadable_27 : decode cX3_strongestReadable 27 = .ok (.iload_n 3, 1) := by decide +kernel
theorem dX3_strongestReadable_28 : decode cX3_strongestReadable 28 = .ok (.aload_n 0, 1) := by decide +kernel
theorem dX3_strongestReadable_29 : decode cX3_strongestReadable 29 = .ok (.iload_n 1, 1) := by decide +kernel
theorem dX3_strongestReadable_30 : decode cX3_strongestReadable 30 = .ok (.iload 4, 2) := by decide +kernel
theorem dX3_strongestReadable_32 : decode cX3_strongestReadable 32 = .ok (.invokevirtual 42, 3) := by decide +kernel
theorem dX3_strongestReadable_35 : decode cX3_strongestReadable 35 = .ok (.invokestatic 50, 3) := by decide +kernel
theorem dX3_strongestReadable_38 : decode cX3_strongestReadable 38 = .ok (.istore_n 3, 1) := by decide +kernel
theorem dX3_strongestReadable_39 : decode cX3_strongestReadable 39 = .ok (.iinc 4 1, 3) := by decide +kernel
theorem dX3_strongestReadable_42 : decode cX3_strongestReadable 42 = .ok (.goto (-37), 3) := by decide +kernel
theorem dX3_strongestReadable_45 : decode cX3_strongestReadable 45 = .ok (.iload_n 3, 1) := by decide +kernel
theorem dX3_strongestReadable_46 : decode cX3_strongestReadable 46 = .ok (.ireturn, 1) := by decide +kernel
