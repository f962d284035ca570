theorem dX5_addVotes_17 : decode cX5_addVotes 17 = .ok (.if_icmp .ne 14, 3) := by decide +kernel
theorem dX5_addVotes_20 : decode cX5_addVotes 20 = .ok (.aload_n 0, 1) := by decide +kernel
theorem dX5_addVotes_21 : decode cX5_addVotes 21 = .ok (.getfield 15, 3) := by decide +kernel
theorem dX5_addVotes_24 : decode cX5_addVotes 24 = .ok (.iload_n 3, 1) := by decide +kernel
theorem dX5_addVotes_25 : decode cX5_addVotes 25 = .ok (.dup2, 1) := by decide +kernel
theorem dX5_addVotes_26 : decode cX5_addVotes 26 = .ok (.iaload, 1) := by decide +kernel
theorem dX5_addVotes_27 : decode cX5_addVotes 27 = .ok (.iload_n 2, 1) := by decide +kernel
theorem dX5_addVotes_28 : decode cX5_addVotes 28 = .ok (.iadd, 1) := by decide +kernel
theorem dX5_addVotes_29 : decode cX5_addVotes 29 = .ok (.iastore, 1) := by decide +kernel
theorem dX5_addVotes_30 : decode cX5_addVotes 30 = .ok (.return_, 1) := by decide +kernel
theorem dX5_addVotes_31 : decode cX5_addVotes 31 = .ok (.iinc 3 1, 3) := by decide +kernel
theorem dX5_addVotes_34 : decode cX5_addVotes 34 = .ok (.goto (-32), 3) := by decide +kernel
theorem dX5_addVotes_37 : decode cX5_addVotes 37 = .ok (.aload_n 0, 1) := by decide +kernel
theorem dX5_addVotes_38 : decode cX5_addVotes 38 = .ok (.getfield 22, 3) := by decide +kernel
theorem dX5_addVotes_41 : decode cX5_addVotes 41 = .ok (.iconst 5, 1) := by decide +kernel
theorem dX5_addVotes_42 : decode cX5_addVotes 42 = .ok (.if_icmp .ge 33, 3) := by decide +kernel
theorem dX5_addVotes_45 : decode cX5_addVotes 45 = .ok (.aload_n 0, 1) := by decide +kernel
theorem dX5_addVotes_46 : decode cX5_addVotes 46 = .ok (.getfield 9, 3) := by decide +kernel
theorem dX5_addVotes_49 : decode cX5_addVotes 49 = .ok (.aload_n 0, 1) := by decide +kernel
theorem dX5_addVotes_50 : decode cX5_addVotes 50 = .ok (.getfield 22, 3) := by decide +kernel
theorem dX5_addVotes_53 : decode cX5_addVotes 53 = .ok (.iload_n 1, 1) := by decide +kernel
theorem dX5_addVotes_54 : decode cX5_addVotes 54 = .ok (.iastore, 1) := by decide +kernel
theorem dX5_addVotes_55 : decode cX5_addVotes 55 = .ok (.aload_n 0, 1) := by decide +kernel
theorem dX5_addVotes_56 : decode cX5_addVotes 56 = .ok (.getfield 15, 3) := by decide +kernel
theorem dX5_addVotes_59 : decode cX5_addVotes 59 = .ok (.aload_n 0, 1) := by decide +kernel
theorem dX5_addVotes_60 : decode cX5_addVotes 60 = .ok (.getfield 22, 3) := by decide +kernel
theorem dX5_addVotes_63 : decode cX5_addVotes 63 = .ok (.iload_n 2, 1) := by decide +kernel
theorem dX5_addVotes_64 : decode cX5_addVotes 64 = .ok (.iastore, 1) := by decide +kernel
theorem dX5_addVotes_65 : decode cX5_addVotes 65 = .ok (.aload_n 0, 1) := by decide +kernel
theorem dX5_addVotes_66 : decode cX5_addVotes 66 = .ok (.dup, 1) := by decide +kernel
theorem dX5_addVotes_67 : decode cX5_addVotes 67 = .ok (.getfield 22, 3) := by decide +kernel
theorem dX5_addVotes_70 : decode cX5_addVotes 70 = .ok (.iconst 1, 1) := by decide +kernel
theorem dX5_addVotes_71 : decode cX5_addVotes 71 = .ok (.iadd, 1) := by decide +kernel
theorem dX5_addVotes_72 : decode cX5_addVotes 72 = .ok (.putfield 22, 3) := by decide +kernel
theorem dX5_addVotes_75 : decode cX5_addVotes 75 = .ok (.return_, 1) := by decide +kernel
theorem dX5_findLeaders_0 : decode cX5_findLeaders 0 = .ok (.aload_n 0, 1) := by decide +kernel
theorem dX5_findLeaders_1 : decode cX5_findLeaders 1 = .ok (.iconst 0, 1) := by decide +kernel
theorem dX5_findLeaders_2 : decode cX5_findLeaders 2 = .ok (.putfield 44, 3) := by decide +kernel
theorem dX5_findLeaders_5 : decode cX5_findLeaders 5 = .ok (.aload_n 0, 1) := by decide +kernel
theorem dX5_findLeaders_6 : decode cX5_findLeaders 6 = .ok (.bipush (-6), 2) := by decide +kernel
theorem dX5_findLeaders_8 : decode cX5_findLeaders 8 = .ok (.putfield 47, 3) := by decide +kernel
theorem dX5_findLeaders_11 : decode cX5_findLeaders 11 = .ok (.aload_n 0, 1) := by decide +kernel
theorem dX5_findLeaders_12 : decode cX5_findLeaders 12 = .ok (.bipush (-6), 2) := by decide +kernel
theorem dX5_findLeaders_14 : decode cX5_findLeaders 14 = .ok (.putfield 50, 3) := by decide +kernel
theorem dX5_findLeaders_17 : decode cX5_findLeaders 17 = .ok (.aload_n 0, 1) := by decide +kernel
theorem dX5_findLeaders_18 : decode cX5_findLeaders 18 = .ok (.iconst 0, 1) := by decide +kernel
theorem dX5_findLeaders_19 : decode cX5_findLeaders 19 = .ok (.putfield 53, 3) := by decide +kernel
theorem dX5_findLeaders_22 : decode cX5_findLeaders 22 = .ok (.iconst 0, 1) := by decide +kernel
theorem dX5_findLeaders_23 : decode cX5_findLeaders 23 = .ok (.istore_n 1, 1) := by decide +kernel
theorem dX5_findLeaders_24 : decode cX5_findLeaders 24 = .ok (.iload_n 1, 1) := by decide +kernel
theorem dX5_findLeaders_25 : decode cX5_findLeaders 25 = .ok (.aload_n 0, 1) := by decide +kernel
theorem dX5_findLeaders_26 : decode cX5_findLeaders 26 = .ok (.getfield 22, 3) := by decide +kernel
theorem dX5_findLeaders_29 : decode cX5_findLeaders 29 = .ok (.if_icmp .ge 104, 3) := by decide +kernel
theorem dX5_findLeaders_32 : decode cX5_findLeaders 32 = .ok (.aload_n 0, 1) := by decide +kernel
theorem dX5_findLeaders_33 : decode cX5_findLeaders 33 = .ok (.getfield 9, 3) := by decide +kernel
theorem dX5_findLeaders_36 : decode cX5_findLeaders 36 = .ok (.iload_n 1, 1) := by decide +kernel
theorem dX5_findLeaders_37 : decode cX5_findLeaders 37 = .ok (.iaload, 1) := by decide +kernel
theorem dX5_findLeaders_38 : decode cX5_findLeaders 38 = .ok (.istore_n 2, 1) := by decide +kernel
theorem dX5_findLeaders_39 : decode cX5_findLeaders 39 = .ok (.aload_n 0, 1) := by decide +kernel
theorem dX5_findLeaders_40 : decode cX5_findLeaders 40 = .ok (.getfield 15, 3) := by decide +kernel
theorem dX5_findLeaders_43 : decode cX5_findLeaders 43 = .ok (.iload_n 1, 1) := by decide +kernel
theorem dX5_findLeaders_44 : decode cX5_findLeaders 44 = .ok (.iaload, 1) := by decide +kernel
theorem dX5_findLeaders_45 : decode cX5_findLeaders 45 = .ok (.aload_n 0, 1) := by decide +kernel
theorem dX5_findLeaders_46 : decode cX5_findLeaders 46 = .ok (.getfield 53, 3) := by decide +kernel
theorem dX5_findLeaders_49 : decode cX5_findLeaders 49 = .ok (.if_icmp .le 31, 3) := by decide +kernel
theorem dX5_findLeaders_52 : decode cX5_findLeaders 52 = .ok (.aload_n 0, 1) := by decide +kernel
theorem dX5_findLeaders_53 : decode cX5_findLeaders 53 = .ok (.aload_n 0, 1) := by decide +kernel
theorem dX5_findLeaders_54 : decode cX5_findLeaders 54 = .ok (.getfield 15, 3) := by decide +kernel
theorem dX5_findLeaders_57 : decode cX5_findLeaders 57 = .ok (.iload_n 1, 1) := by decide +kernel
theorem dX5_findLeaders_58 : decode cX5_findLeaders 58 = .ok (.iaload, 1) := by decide +kernel
theorem dX5_findLeaders_59 : decode cX5_findLeaders 59 = .ok (.putfield 53, 3) := by decide +kernel
theorem dX5_findLeaders_62 : decode cX5_findLeaders 62 = .ok (.aload_n 0, 1) := by decide +kernel
theorem dX5_findLeaders_63 : decode cX5_findLeaders 63 = .ok (.iconst 1, 1) := by decide +kernel
theorem dX5_findLeaders_64 : decode cX5_findLeaders 64 = .ok (.putfield 44, 3) := by decide +kernel
theorem dX5_findLeaders_67 : decode cX5_findLeaders 67 = .ok (.aload_n 0, 1) := by decide +kernel
theorem dX5_findLeaders_68 : decode cX5_findLeaders 68 = .ok (.iload_n 2, 1) := by decide +kernel
theorem dX5_findLeaders_69 : decode cX5_findLeaders 69 = .ok (.putfield 47, 3) := by decide +kernel
theorem dX5_findLeaders_72 : decode cX5_findLeaders 72 = .ok (.aload_n 0, 1) := by decide +kernel
theorem dX5_findLeaders_73 : decode cX5_findLeaders 73 = .ok (.iload_n 2, 1) := by decide +kernel
theorem dX5_findLeaders_74 : decode cX5_findLeaders 74 = .ok (.putfield 50, 3) := by decide +kernel
theorem dX5_findLeaders_77 : decode cX5_findLeaders 77 = .ok (.goto 50, 3) := by decide +kernel
theorem dX5_findLeaders_80 : decode cX5_findLeaders 80 = .ok (.aload_n 0, 1) := by decide +kernel
theorem dX5_findLeaders_81 : decode cX5_findLeaders 81 = .ok (.getfield 15, 3) := by decide +kernel
theorem dX5_findLeaders_84 : decode cX5_findLeaders 84 = .ok (.iload_n 1, 1) := by decide +kernel
theorem dX5_findLeaders_85 : decode cX5_findLeaders 85 = .ok (.iaload, 1) := by decide +kernel
theorem dX5_findLeaders_86 : decode cX5_findLeaders 86 = .ok (.aload_n 0, 1) := by decide +kernel
theorem dX5_findLeaders_87 : decode cX5_findLeaders 87 = .ok (.getfield 53, 3) := by decide +kernel
theorem dX5_findLeaders_90 : decode cX5_findLeaders 90 = .ok (.if_icmp .ne 37, 3) := by decide +kernel
theorem dX5_findLeaders_93 : decode cX5_findLeaders 93 = .ok (.aload_n 0, 1) := by decide +kernel
theorem dX5_findLeaders_94 : decode cX5_findLeaders 94 = .ok (.dup, 1) := by decide +kernel
theorem dX5_findLeaders_95 : decode cX5_findLeaders 95 = .ok (.getfield 44, 3) := by decide +kernel
theorem dX5_findLeaders_98 : decode cX5_findLeaders 98 = .ok (.iconst 1, 1) := by decide +kernel
theorem dX5_findLeaders_99 : decode cX5_findLeaders 99 = .ok (.iadd, 1) := by decide +kernel
theorem dX5_findLeaders_100 : decode cX5_findLeaders 100 = .ok (.putfield 44, 3) := by decide +kernel
theorem dX5_findLeaders_103 : decode cX5_findLeaders 103 = .ok (.aload_n 0, 1) := by decide +kernel
theorem dX5_findLeaders_104 : decode cX5_findLeaders 104 = .ok (.aload_n 0, 1) := by decide +kernel
theorem dX5_findLeaders_105 : decode cX5_findLeaders 105 = .ok (.getfield 47, 3) := by decide +kernel
theorem dX5_findLeaders_108 : decode cX5_findLeaders 108 = .ok (.iload_n 2, 1) := by decide +kernel
theorem dX5_findLeaders_109 : decode cX5_findLeaders 109 = .ok (.invokestatic 56, 3) := by decide +kernel
theorem dX5_findLeaders_112 : decode cX5_findLeaders 112 = .ok (.putfield 47, 3) := by decide +kernel
theorem dX5_findLeaders_115 : decode cX5_findLeaders 115 = .ok (.aload_n 0, 1) := by decide +kernel
theorem dX5_findLeaders_116 : decode cX5_findLeaders 116 = .ok (.aload_n 0, 1) := by decide +kernel
theorem dX5_findLeaders_117 : decode cX5_findLeaders 117 = .ok (.getfield 50, 3) := by decide +kernel
theorem dX5_findLeaders_120 : decode cX5_findLeaders 120 = .ok (.iload_n 2, 1) := by decide +kernel
theorem dX5_findLeaders_121 : decode cX5_findLeaders 121 = .ok (.invokestatic 61, 3) := by decide +kernel
theorem dX5_findLeaders_124 : decode cX5_findLeaders 124 = .ok (.putfield 50, 3) := by decide +kernel
theorem dX5_findLeaders_127 : decode cX5_findLeaders 127 = .ok (.iinc 1 1, 3) := by decide +kernel
theorem dX5_findLeaders_130 : decode cX5_findLeaders 130 = .ok (.goto (-106), 3) := by decide +kernel
theorem dX5_findLeaders_133 : decode cX5_findLeaders 133 = .ok (.return_, 1) := by decide +kernel
