theorem dX7_layTogether_205 : decode cX7_layTogether 205 = .ok (.iload_n 3, 1) := by decide +kernel
theorem dX7_layTogether_206 : decode cX7_layTogether 206 = .ok (.aload_n 0, 1) := by decide +kernel
theorem dX7_layTogether_207 : decode cX7_layTogether 207 = .ok (.getfield 133, 3) := by decide +kernel
theorem dX7_layTogether_210 : decode cX7_layTogether 210 = .ok (.if_icmp .le 7, 3) := by decide +kernel
theorem dX7_layTogether_213 : decode cX7_layTogether 213 = .ok (.iload_n 3, 1) := by decide +kernel
theorem dX7_layTogether_214 : decode cX7_layTogether 214 = .ok (.goto 7, 3) := by decide +kernel
theorem dX7_layTogether_217 : decode cX7_layTogether 217 = .ok (.aload_n 0, 1) := by decide +kernel
theorem dX7_layTogether_218 : decode cX7_layTogether 218 = .ok (.getfield 133, 3) := by decide +kernel
theorem dX7_layTogether_221 : decode cX7_layTogether 221 = .ok (.putfield 133, 3) := by decide +kernel
theorem dX7_layTogether_224 : decode cX7_layTogether 224 = .ok (.iinc 2 1, 3) := by decide +kernel
theorem dX7_layTogether_227 : decode cX7_layTogether 227 = .ok (.goto (-198), 3) := by decide +kernel
theorem dX7_layTogether_230 : decode cX7_layTogether 230 = .ok (.return_, 1) := by decide +kernel
theorem dX7_together_0 : decode cX7_together 0 = .ok (.iload_n 1, 1) := by decide +kernel
theorem dX7_together_1 : decode cX7_together 1 = .ok (.invokestatic 75, 3) := by decide +kernel
theorem dX7_together_4 : decode cX7_together 4 = .ok (.ifCond .ne 5, 3) := by decide +kernel
theorem dX7_together_7 : decode cX7_together 7 = .ok (.iconst (-1), 1) := by decide +kernel
theorem dX7_together_8 : decode cX7_together 8 = .ok (.ireturn, 1) := by decide +kernel
theorem dX7_together_9 : decode cX7_together 9 = .ok (.aload_n 0, 1) := by decide +kernel
theorem dX7_together_10 : decode cX7_together 10 = .ok (.iload_n 1, 1) := by decide +kernel
theorem dX7_together_11 : decode cX7_together 11 = .ok (.invokevirtual 145, 3) := by decide +kernel
theorem dX7_together_14 : decode cX7_together 14 = .ok (.iload_n 2, 1) := by decide +kernel
theorem dX7_together_15 : decode cX7_together 15 = .ok (.tableswitch 49 0 3 #[29, 34, 39, 44], 29) := by decide +kernel
theorem dX7_together_44 : decode cX7_together 44 = .ok (.aload_n 0, 1) := by decide +kernel
theorem dX7_together_45 : decode cX7_together 45 = .ok (.getfield 127, 3) := by decide +kernel
theorem dX7_together_48 : decode cX7_together 48 = .ok (.ireturn, 1) := by decide +kernel
theorem dX7_together_49 : decode cX7_together 49 = .ok (.aload_n 0, 1) := by decide +kernel
theorem dX7_together_50 : decode cX7_together 50 = .ok (.getfield 130, 3) := by decide +kernel
theorem dX7_together_53 : decode cX7_together 53 = .ok (.ireturn, 1) := by decide +kernel
theorem dX7_together_54 : decode cX7_together 54 = .ok (.aload_n 0, 1) := by decide +kernel
theorem dX7_together_55 : decode cX7_together 55 = .ok (.getfield 133, 3) := by decide +kernel
theorem dX7_together_58 : decode cX7_together 58 = .ok (.ireturn, 1) := by decide +kernel
theorem dX7_together_59 : decode cX7_together 59 = .ok (.aload_n 0, 1) := by decide +kernel
theorem dX7_together_60 : decode cX7_together 60 = .ok (.getfield 136, 3) := by decide +kernel
theorem dX7_together_63 : decode cX7_together 63 = .ok (.ireturn, 1) := by decide +kernel
theorem dX7_together_64 : decode cX7_together 64 = .ok (.iload_n 2, 1) := by decide +kernel
theorem dX7_together_65 : decode cX7_together 65 = .ok (.iconst 4, 1) := by decide +kernel
theorem dX7_together_66 : decode cX7_together 66 = .ok (.if_icmp .ne 10, 3) := by decide +kernel
theorem dX7_together_69 : decode cX7_together 69 = .ok (.aload_n 0, 1) := by decide +kernel
theorem dX7_together_70 : decode cX7_together 70 = .ok (.getfield 139, 3) := by decide +kernel
theorem dX7_together_73 : decode cX7_together 73 = .ok (.goto 5, 3) := by decide +kernel
theorem dX7_together_76 : decode cX7_together 76 = .ok (.bipush (-2), 2) := by decide +kernel
theorem dX7_together_78 : decode cX7_together 78 = .ok (.ireturn, 1) := by decide +kernel
theorem dX7_fieldsWith_0 : decode cX7_fieldsWith 0 = .ok (.iconst 0, 1) := by decide +kernel
theorem dX7_fieldsWith_1 : decode cX7_fieldsWith 1 = .ok (.istore_n 2, 1) := by decide +kernel
theorem dX7_fieldsWith_2 : decode cX7_fieldsWith 2 = .ok (.iconst 0, 1) := by decide +kernel
theorem dX7_fieldsWith_3 : decode cX7_fieldsWith 3 = .ok (.istore_n 3, 1) := by decide +kernel
theorem dX7_fieldsWith_4 : decode cX7_fieldsWith 4 = .ok (.iload_n 3, 1) := by decide +kernel
theorem dX7_fieldsWith_5 : decode cX7_fieldsWith 5 = .ok (.bipush 10, 2) := by decide +kernel
theorem dX7_fieldsWith_7 : decode cX7_fieldsWith 7 = .ok (.if_icmp .ge 54, 3) := by decide +kernel
theorem dX7_fieldsWith_10 : decode cX7_fieldsWith 10 = .ok (.aload_n 0, 1) := by decide +kernel
theorem dX7_fieldsWith_11 : decode cX7_fieldsWith 11 = .ok (.iload_n 3, 1) := by decide +kernel
theorem dX7_fieldsWith_12 : decode cX7_fieldsWith 12 = .ok (.invokevirtual 145, 3) := by decide +kernel
theorem dX7_fieldsWith_15 : decode cX7_fieldsWith 15 = .ok (.iload_n 2, 1) := by decide +kernel
theorem dX7_fieldsWith_16 : decode cX7_fieldsWith 16 = .ok (.iload_n 1, 1) := by decide +kernel
theorem dX7_fieldsWith_17 : decode cX7_fieldsWith 17 = .ok (.ifCond .eq 21, 3) := by decide +kernel
theorem dX7_fieldsWith_20 : decode cX7_fieldsWith 20 = .ok (.aload_n 0, 1) := by decide +kernel
theorem dX7_fieldsWith_21 : decode cX7_fieldsWith 21 = .ok (.getfield 127, 3) := by decide +kernel
theorem dX7_fieldsWith_24 : decode cX7_fieldsWith 24 = .ok (.iconst 1, 1) := by decide +kernel
theorem dX7_fieldsWith_25 : decode cX7_fieldsWith 25 = .ok (.if_icmp .ne 9, 3) := by decide +kernel
theorem dX7_fieldsWith_28 : decode cX7_fieldsWith 28 = .ok (.iconst 1, 1) := by decide +kernel
theorem dX7_fieldsWith_29 : decode cX7_fieldsWith 29 = .ok (.iload_n 3, 1) := by decide +kernel
theorem dX7_fieldsWith_30 : decode cX7_fieldsWith 30 = .ok (.ishl, 1) := by decide +kernel
theorem dX7_fieldsWith_31 : decode cX7_fieldsWith 31 = .ok (.goto 22, 3) := by decide +kernel
theorem dX7_fieldsWith_34 : decode cX7_fieldsWith 34 = .ok (.iconst 0, 1) := by decide +kernel
theorem dX7_fieldsWith_35 : decode cX7_fieldsWith 35 = .ok (.goto 18, 3) := by decide +kernel
theorem dX7_fieldsWith_38 : decode cX7_fieldsWith 38 = .ok (.aload_n 0, 1) := by decide +kernel
theorem dX7_fieldsWith_39 : decode cX7_fieldsWith 39 = .ok (.getfield 127, 3) := by decide +kernel
theorem dX7_fieldsWith_42 : decode cX7_fieldsWith 42 = .ok (.iconst 1, 1) := by decide +kernel
theorem dX7_fieldsWith_43 : decode cX7_fieldsWith 43 = .ok (.if_icmp .le 9, 3) := by decide +kernel
theorem dX7_fieldsWith_46 : decode cX7_fieldsWith 46 = .ok (.iconst 1, 1) := by decide +kernel
theorem dX7_fieldsWith_47 : decode cX7_fieldsWith 47 = .ok (.iload_n 3, 1) := by decide +kernel
theorem dX7_fieldsWith_48 : decode cX7_fieldsWith 48 = .ok (.ishl, 1) := by decide +kernel
theorem dX7_fieldsWith_49 : decode cX7_fieldsWith 49 = .ok (.goto 4, 3) := by decide +kernel
theorem dX7_fieldsWith_52 : decode cX7_fieldsWith 52 = .ok (.iconst 0, 1) := by decide +kernel
theorem dX7_fieldsWith_53 : decode cX7_fieldsWith 53 = .ok (.ior, 1) := by decide +kernel
theorem dX7_fieldsWith_54 : decode cX7_fieldsWith 54 = .ok (.istore_n 2, 1) := by decide +kernel
theorem dX7_fieldsWith_55 : decode cX7_fieldsWith 55 = .ok (.iinc 3 1, 3) := by decide +kernel
theorem dX7_fieldsWith_58 : decode cX7_fieldsWith 58 = .ok (.goto (-54), 3) := by decide +kernel
theorem dX7_fieldsWith_61 : decode cX7_fieldsWith 61 = .ok (.iload_n 2, 1) := by decide +kernel
theorem dX7_fieldsWith_62 : decode cX7_fieldsWith 62 = .ok (.ireturn, 1) := by decide +kernel
theorem dX7_stack_0 : decode cX7_stack 0 = .ok (.iconst 0, 1) := by decide +kernel
theorem dX7_stack_1 : decode cX7_stack 1 = .ok (.istore_n 1, 1) := by decide +kernel
theorem dX7_stack_2 : decode cX7_stack 2 = .ok (.iconst 0, 1) := by decide +kernel
theorem dX7_stack_3 : decode cX7_stack 3 = .ok (.istore_n 2, 1) := by decide +kernel
theorem dX7_stack_4 : decode cX7_stack 4 = .ok (.iload_n 2, 1) := by decide +kernel
theorem dX7_stack_5 : decode cX7_stack 5 = .ok (.iconst 5, 1) := by decide +kernel
theorem dX7_stack_6 : decode cX7_stack 6 = .ok (.if_icmp .ge 27, 3) := by decide +kernel
theorem dX7_stack_9 : decode cX7_stack 9 = .ok (.iload_n 1, 1) := by decide +kernel
theorem dX7_stack_10 : decode cX7_stack 10 = .ok (.aload_n 0, 1) := by decide +kernel
theorem dX7_stack_11 : decode cX7_stack 11 = .ok (.iload_n 2, 1) := by decide +kernel
theorem dX7_stack_12 : decode cX7_stack 12 = .ok (.invokevirtual 54, 3) := by decide +kernel
theorem dX7_stack_15 : decode cX7_stack 15 = .ok (.ifCond .eq 9, 3) := by decide +kernel
theorem dX7_stack_18 : decode cX7_stack 18 = .ok (.iconst 1, 1) := by decide +kernel
theorem dX7_stack_19 : decode cX7_stack 19 = .ok (.iload_n 2, 1) := by decide +kernel
theorem dX7_stack_20 : decode cX7_stack 20 = .ok (.ishl, 1) := by decide +kernel
theorem dX7_stack_21 : decode cX7_stack 21 = .ok (.goto 4, 3) := by decide +kernel
theorem dX7_stack_24 : decode cX7_stack 24 = .ok (.iconst 0, 1) := by decide +kernel
theorem dX7_stack_25 : decode cX7_stack 25 = .ok (.ior, 1) := by decide +kernel
theorem dX7_stack_26 : decode cX7_stack 26 = .ok (.istore_n 1, 1) := by decide +kernel
theorem dX7_stack_27 : decode cX7_stack 27 = .ok (.iinc 2 1, 3) := by decide +kernel
theorem dX7_stack_30 : decode cX7_stack 30 = .ok (.goto (-26), 3) := by decide +kernel
theorem dX7_stack_33 : decode cX7_stack 33 = .ok (.iload_n 1, 1) := by decide +kernel
theorem dX7_stack_34 : decode cX7_stack 34 = .ok (.ireturn, 1) := by decide +kernel
theorem dX7_count_0 : decode cX7_count 0 = .ok (.iconst 0, 1) := by decide +kernel
theorem dX7_count_1 : decode cX7_count 1 = .ok (.istore_n 2, 1) := by decide +kernel
theorem dX7_count_2 : decode cX7_count 2 = .ok (.iconst 0, 1) := by decide +kernel
theorem dX7_count_3 : decode cX7_count 3 = .ok (.istore_n 3, 1) := by decide +kernel
theorem dX7_count_4 : decode cX7_count 4 = .ok (.iload_n 3, 1) := by decide +kernel
theorem dX7_count_5 : decode cX7_count 5 = .ok (.iconst 5, 1) := by decide +kernel
theorem dX7_count_6 : decode cX7_count 6 = .ok (.if_icmp .ge 18, 3) := by decide +kernel
theorem dX7_count_9 : decode cX7_count 9 = .ok (.iload_n 2, 1) := by decide +kernel
theorem dX7_count_10 : decode cX7_count 10 = .ok (.aload_n 0, 1) := by decide +kernel
theorem dX7_count_11 : decode cX7_count 11 = .ok (.iload_n 3, 1) := by decide +kernel
theorem dX7_count_12 : decode cX7_count 12 = .ok (.iconst 0, 1) := by decide +kernel
theorem dX7_count_13 : decode cX7_count 13 = .ok (.invokevirtual 117, 3) := by decide +kernel
theorem dX7_count_16 : decode cX7_count 16 = .ok (.iadd, 1) := by decide +kernel
theorem dX7_count_17 : decode cX7_count 17 = .ok (.istore_n 2, 1) := by decide +kernel
theorem dX7_count_18 : decode cX7_count 18 = .ok (.iinc 3 1, 3) := by decide +kernel
theorem dX7_count_21 : decode cX7_count 21 = .ok (.goto (-17), 3) := by decide +kernel
theorem dX7_count_24 : decode cX7_count 24 = .ok (.iload_n 1, 1) := by decide +kernel
theorem dX7_count_25 : decode cX7_count 25 = .ok (.tableswitch 100 0 7 #[47, 47, 68, 73, 75, 75, 90, 95], 47) := by decide +kernel
theorem dX7_count_72 : decode cX7_count 72 = .ok (.aload_n 0, 1) := by decide +kernel
theorem dX7_count_73 : decode cX7_count 73 = .ok (.invokevirtual 78, 3) := by decide +kernel
theorem dX7_count_76 : decode cX7_count 76 = .ok (.ifCond .eq 14, 3) := by decide +kernel
theorem dX7_count_79 : decode cX7_count 79 = .ok (.aload_n 0, 1) := by decide +kernel
theorem dX7_count_80 : decode cX7_count 80 = .ok (.getfield 7, 3) := by decide +kernel
theorem dX7_count_83 : decode cX7_count 83 = .ok (.iconst 2, 1) := by decide +kernel
theorem dX7_count_84 : decode cX7_count 84 = .ok (.iload_n 1, 1) := by decide +kernel
theorem dX7_count_85 : decode cX7_count 85 = .ok (.iadd, 1) := by decide +kernel
theorem dX7_count_86 : decode cX7_count 86 = .ok (.iaload, 1) := by decide +kernel
theorem dX7_count_87 : decode cX7_count 87 = .ok (.goto 5, 3) := by decide +kernel
theorem dX7_count_90 : decode cX7_count 90 = .ok (.bipush (-6), 2) := by decide +kernel
theorem dX7_count_92 : decode cX7_count 92 = .ok (.ireturn, 1) := by decide +kernel
theorem dX7_count_93 : decode cX7_count 93 = .ok (.aload_n 0, 1) := by decide +kernel
theorem dX7_count_94 : decode cX7_count 94 = .ok (.invokevirtual 148, 3) := by decide +kernel
theorem dX7_count_97 : decode cX7_count 97 = .ok (.ireturn, 1) := by decide +kernel
theorem dX7_count_98 : decode cX7_count 98 = .ok (.iload_n 2, 1) := by decide +kernel
theorem dX7_count_99 : decode cX7_count 99 = .ok (.ireturn, 1) := by decide +kernel
theorem dX7_count_100 : decode cX7_count 100 = .ok (.aload_n 0, 1) := by decide +kernel
theorem dX7_count_101 : decode cX7_count 101 = .ok (.iload_n 1, 1) := by decide +kernel
theorem dX7_count_102 : decode cX7_count 102 = .ok (.iconst 4, 1) := by decide +kernel
theorem dX7_count_103 : decode cX7_count 103 = .ok (.if_icmp .ne 7, 3) := by decide +kernel
theorem dX7_count_106 : decode cX7_count 106 = .ok (.iconst 1, 1) := by decide +kernel
theorem dX7_count_107 : decode cX7_count 107 = .ok (.goto 4, 3) := by decide +kernel
theorem dX7_count_110 : decode cX7_count 110 = .ok (.iconst 0, 1) := by decide +kernel
theorem dX7_count_111 : decode cX7_count 111 = .ok (.invokevirtual 152, 3) := by decide +kernel
theorem dX7_count_114 : decode cX7_count 114 = .ok (.ireturn, 1) := by decide +kernel
theorem dX7_count_115 : decode cX7_count 115 = .ok (.aload_n 0, 1) := by decide +kernel
theorem dX7_count_116 : decode cX7_count 116 = .ok (.getfield 156, 3) := by decide +kernel
theorem dX7_count_119 : decode cX7_count 119 = .ok (.ireturn, 1) := by decide +kernel
theorem dX7_count_120 : decode cX7_count 120 = .ok (.aload_n 0, 1) := by decide +kernel
theorem dX7_count_121 : decode cX7_count 121 = .ok (.getfield 39, 3) := by decide +kernel
theorem dX7_count_124 : decode cX7_count 124 = .ok (.ireturn, 1) := by decide +kernel
theorem dX7_count_125 : decode cX7_count 125 = .ok (.iload_n 1, 1) := by decide +kernel
theorem dX7_count_126 : decode cX7_count 126 = .ok (.bipush 8, 2) := by decide +kernel
theorem dX7_count_128 : decode cX7_count 128 = .ok (.bipush 9, 2) := by decide +kernel
theorem dX7_count_130 : decode cX7_count 130 = .ok (.invokestatic 43, 3) := by decide +kernel
theorem dX7_count_133 : decode cX7_count 133 = .ok (.ifCond .eq 15, 3) := by decide +kernel
theorem dX7_count_136 : decode cX7_count 136 = .ok (.aload_n 0, 1) := by decide +kernel
theorem dX7_count_137 : decode cX7_count 137 = .ok (.getfield 7, 3) := by decide +kernel
theorem dX7_count_140 : decode cX7_count 140 = .ok (.iload_n 1, 1) := by decide +kernel
theorem dX7_count_141 : decode cX7_count 141 = .ok (.bipush 8, 2) := by decide +kernel
theorem dX7_count_143 : decode cX7_count 143 = .ok (.isub, 1) := by decide +kernel
theorem dX7_count_144 : decode cX7_count 144 = .ok (.iaload, 1) := by decide +kernel
theorem dX7_count_145 : decode cX7_count 145 = .ok (.goto 5, 3) := by decide +kernel
theorem dX7_count_148 : decode cX7_count 148 = .ok (.bipush (-2), 2) := by decide +kernel
theorem dX7_count_150 : decode cX7_count 150 = .ok (.ireturn, 1) := by decide +kernel
theorem dX7_differ_0 : decode cX7_differ 0 = .ok (.iload_n 1, 1) := by decide +kernel
theorem dX7_differ_1 : decode cX7_differ 1 = .ok (.invokestatic 50, 3) := by decide +kernel
theorem dX7_differ_4 : decode cX7_differ 4 = .ok (.ifCond .eq 10, 3) := by decide +kernel
theorem dX7_differ_7 : decode cX7_differ 7 = .ok (.iload_n 2, 1) := by decide +kernel
theorem dX7_differ_8 : decode cX7_differ 8 = .ok (.invokestatic 50, 3) := by decide +kernel
theorem dX7_differ_11 : decode cX7_differ 11 = .ok (.ifCond .ne 5, 3) := by decide +kernel
theorem dX7_differ_14 : decode cX7_differ 14 = .ok (.iconst (-1), 1) := by decide +kernel
theorem dX7_differ_15 : decode cX7_differ 15 = .ok (.ireturn, 1) := by decide +kernel
theorem dX7_differ_16 : decode cX7_differ 16 = .ok (.iconst 0, 1) := by decide +kernel
theorem dX7_differ_17 : decode cX7_differ 17 = .ok (.istore_n 3, 1) := by decide +kernel
theorem dX7_differ_18 : decode cX7_differ 18 = .ok (.iconst 0, 1) := by decide +kernel
theorem dX7_differ_19 : decode cX7_differ 19 = .ok (.istore 4, 2) := by decide +kernel
theorem dX7_differ_21 : decode cX7_differ 21 = .ok (.iload 4, 2) := by decide +kernel
theorem dX7_differ_23 : decode cX7_differ 23 = .ok (.bipush 10, 2) := by decide +kernel
theorem dX7_differ_25 : decode cX7_differ 25 = .ok (.if_icmp .ge 78, 3) := by decide +kernel
theorem dX7_differ_28 : decode cX7_differ 28 = .ok (.aload_n 0, 1) := by decide +kernel
theorem dX7_differ_29 : decode cX7_differ 29 = .ok (.iload_n 1, 1) := by decide +kernel
theorem dX7_differ_30 : decode cX7_differ 30 = .ok (.iload 4, 2) := by decide +kernel
theorem dX7_differ_32 : decode cX7_differ 32 = .ok (.invokevirtual 114, 3) := by decide +kernel
theorem dX7_differ_35 : decode cX7_differ 35 = .ok (.istore 5, 2) := by decide +kernel
theorem dX7_differ_37 : decode cX7_differ 37 = .ok (.iload 5, 2) := by decide +kernel
theorem dX7_differ_39 : decode cX7_differ 39 = .ok (.aload_n 0, 1) := by decide +kernel
theorem dX7_differ_40 : decode cX7_differ 40 = .ok (.iload_n 2, 1) := by decide +kernel
theorem dX7_differ_41 : decode cX7_differ 41 = .ok (.iload 4, 2) := by decide +kernel
theorem dX7_differ_43 : decode cX7_differ 43 = .ok (.invokevirtual 114, 3) := by decide +kernel
theorem dX7_differ_46 : decode cX7_differ 46 = .ok (.if_icmp .ne 32, 3) := by decide +kernel
theorem dX7_differ_49 : decode cX7_differ 49 = .ok (.iload 5, 2) := by decide +kernel
theorem dX7_differ_51 : decode cX7_differ 51 = .ok (.iconst 1, 1) := by decide +kernel
theorem dX7_differ_52 : decode cX7_differ 52 = .ok (.if_icmp .ne 22, 3) := by decide +kernel
theorem dX7_differ_55 : decode cX7_differ 55 = .ok (.aload_n 0, 1) := by decide +kernel
theorem dX7_differ_56 : decode cX7_differ 56 = .ok (.iload_n 1, 1) := by decide +kernel
theorem dX7_differ_57 : decode cX7_differ 57 = .ok (.iload 4, 2) := by decide +kernel
theorem dX7_differ_59 : decode cX7_differ 59 = .ok (.iconst 0, 1) := by decide +kernel
theorem dX7_differ_60 : decode cX7_differ 60 = .ok (.invokevirtual 124, 3) := by decide +kernel
theorem dX7_differ_63 : decode cX7_differ 63 = .ok (.aload_n 0, 1) := by decide +kernel
theorem dX7_differ_64 : decode cX7_differ 64 = .ok (.iload_n 2, 1) := by decide +kernel
theorem dX7_differ_65 : decode cX7_differ 65 = .ok (.iload 4, 2) := by decide +kernel
theorem dX7_differ_67 : decode cX7_differ 67 = .ok (.iconst 0, 1) := by decide +kernel
theorem dX7_differ_68 : decode cX7_differ 68 = .ok (.invokevirtual 124, 3) := by decide +kernel
theorem dX7_differ_71 : decode cX7_differ 71 = .ok (.if_icmp .ne 7, 3) := by decide +kernel
theorem dX7_differ_74 : decode cX7_differ 74 = .ok (.iconst 1, 1) := by decide +kernel
theorem dX7_differ_75 : decode cX7_differ 75 = .ok (.goto 4, 3) := by decide +kernel
theorem dX7_differ_78 : decode cX7_differ 78 = .ok (.iconst 0, 1) := by decide +kernel
theorem dX7_differ_79 : decode cX7_differ 79 = .ok (.istore 6, 2) := by decide +kernel
theorem dX7_differ_81 : decode cX7_differ 81 = .ok (.iload_n 3, 1) := by decide +kernel
theorem dX7_differ_82 : decode cX7_differ 82 = .ok (.iload 6, 2) := by decide +kernel
theorem dX7_differ_84 : decode cX7_differ 84 = .ok (.ifCond .eq 7, 3) := by decide +kernel
theorem dX7_differ_87 : decode cX7_differ 87 = .ok (.iconst 0, 1) := by decide +kernel
theorem dX7_differ_88 : decode cX7_differ 88 = .ok (.goto 7, 3) := by decide +kernel
theorem dX7_differ_91 : decode cX7_differ 91 = .ok (.iconst 1, 1) := by decide +kernel
theorem dX7_differ_92 : decode cX7_differ 92 = .ok (.iload 4, 2) := by decide +kernel
theorem dX7_differ_94 : decode cX7_differ 94 = .ok (.ishl, 1) := by decide +kernel
theorem dX7_differ_95 : decode cX7_differ 95 = .ok (.ior, 1) := by decide +kernel
theorem dX7_differ_96 : decode cX7_differ 96 = .ok (.istore_n 3, 1) := by decide +kernel
theorem dX7_differ_97 : decode cX7_differ 97 = .ok (.iinc 4 1, 3) := by decide +kernel
theorem dX7_differ_100 : decode cX7_differ 100 = .ok (.goto (-79), 3) := by decide +kernel
theorem dX7_differ_103 : decode cX7_differ 103 = .ok (.iload_n 3, 1) := by decide +kernel
theorem dX7_differ_104 : decode cX7_differ 104 = .ok (.ireturn, 1) := by decide +kernel
theorem dX7_enoughFor_0 : decode cX7_enoughFor 0 = .ok (.iload_n 1, 1) := by decide +kernel
theorem dX7_enoughFor_1 : decode cX7_enoughFor 1 = .ok (.invokestatic 50, 3) := by decide +kernel
theorem dX7_enoughFor_4 : decode cX7_enoughFor 4 = .ok (.ifCond .ne 5, 3) := by decide +kernel
theorem dX7_enoughFor_7 : decode cX7_enoughFor 7 = .ok (.iconst (-1), 1) := by decide +kernel
theorem dX7_enoughFor_8 : decode cX7_enoughFor 8 = .ok (.ireturn, 1) := by decide +kernel
theorem dX7_enoughFor_9 : decode cX7_enoughFor 9 = .ok (.iconst 1, 1) := by decide +kernel
theorem dX7_enoughFor_10 : decode cX7_enoughFor 10 = .ok (.istore_n 2, 1) := by decide +kernel
theorem dX7_enoughFor_11 : decode cX7_enoughFor 11 = .ok (.iload_n 2, 1) := by decide +kernel
theorem dX7_enoughFor_12 : decode cX7_enoughFor 12 = .ok (.bipush 10, 2) := by decide +kernel
theorem dX7_enoughFor_14 : decode cX7_enoughFor 14 = .ok (.if_icmp .ge 32, 3) := by decide +kernel
theorem dX7_enoughFor_17 : decode cX7_enoughFor 17 = .ok (.aload_n 0, 1) := by decide +kernel
theorem dX7_enoughFor_18 : decode cX7_enoughFor 18 = .ok (.iload_n 2, 1) := by decide +kernel
theorem dX7_enoughFor_19 : decode cX7_enoughFor 19 = .ok (.invokevirtual 82, 3) := by decide +kernel
theorem dX7_enoughFor_22 : decode cX7_enoughFor 22 = .ok (.pop, 1) := by decide +kernel
theorem dX7_enoughFor_23 : decode cX7_enoughFor 23 = .ok (.aload_n 0, 1) := by decide +kernel
theorem dX7_enoughFor_24 : decode cX7_enoughFor 24 = .ok (.getfield 29, 3) := by decide +kernel
theorem dX7_enoughFor_27 : decode cX7_enoughFor 27 = .ok (.iload_n 1, 1) := by decide +kernel
theorem dX7_enoughFor_28 : decode cX7_enoughFor 28 = .ok (.iaload, 1) := by decide +kernel
theorem dX7_enoughFor_29 : decode cX7_enoughFor 29 = .ok (.aload_n 0, 1) := by decide +kernel
theorem dX7_enoughFor_30 : decode cX7_enoughFor 30 = .ok (.getfield 7, 3) := by decide +kernel
theorem dX7_enoughFor_33 : decode cX7_enoughFor 33 = .ok (.iconst 0, 1) := by decide +kernel
theorem dX7_enoughFor_34 : decode cX7_enoughFor 34 = .ok (.iaload, 1) := by decide +kernel
theorem dX7_enoughFor_35 : decode cX7_enoughFor 35 = .ok (.if_icmp .lt 5, 3) := by decide +kernel
theorem dX7_enoughFor_38 : decode cX7_enoughFor 38 = .ok (.iload_n 2, 1) := by decide +kernel
theorem dX7_enoughFor_39 : decode cX7_enoughFor 39 = .ok (.ireturn, 1) := by decide +kernel
theorem dX7_enoughFor_40 : decode cX7_enoughFor 40 = .ok (.iinc 2 1, 3) := by decide +kernel
theorem dX7_enoughFor_43 : decode cX7_enoughFor 43 = .ok (.goto (-32), 3) := by decide +kernel
theorem dX7_enoughFor_46 : decode cX7_enoughFor 46 = .ok (.bipush (-6), 2) := by decide +kernel
theorem dX7_enoughFor_48 : decode cX7_enoughFor 48 = .ok (.ireturn, 1) := by decide +kernel
theorem dX7_keep_0 : decode cX7_keep 0 = .ok (.iconst 0, 1) := by decide +kernel
theorem dX7_keep_1 : decode cX7_keep 1 = .ok (.istore_n 1, 1) := by decide +kernel
theorem dX7_keep_2 : decode cX7_keep 2 = .ok (.iload_n 1, 1) := by decide +kernel
theorem dX7_keep_3 : decode cX7_keep 3 = .ok (.sipush 470, 3) := by decide +kernel
theorem dX7_keep_6 : decode cX7_keep 6 = .ok (.if_icmp .ge 21, 3) := by decide +kernel
theorem dX7_keep_9 : decode cX7_keep 9 = .ok (.aload_n 0, 1) := by decide +kernel
theorem dX7_keep_10 : decode cX7_keep 10 = .ok (.getfield 13, 3) := by decide +kernel
theorem dX7_keep_13 : decode cX7_keep 13 = .ok (.iload_n 1, 1) := by decide +kernel
theorem dX7_keep_14 : decode cX7_keep 14 = .ok (.aload_n 0, 1) := by decide +kernel
theorem dX7_keep_15 : decode cX7_keep 15 = .ok (.getfield 7, 3) := by decide +kernel
theorem dX7_keep_18 : decode cX7_keep 18 = .ok (.iload_n 1, 1) := by decide +kernel
theorem dX7_keep_19 : decode cX7_keep 19 = .ok (.iaload, 1) := by decide +kernel
theorem dX7_keep_20 : decode cX7_keep 20 = .ok (.iastore, 1) := by decide +kernel
theorem dX7_keep_21 : decode cX7_keep 21 = .ok (.iinc 1 1, 3) := by decide +kernel
theorem dX7_keep_24 : decode cX7_keep 24 = .ok (.goto (-22), 3) := by decide +kernel
theorem dX7_keep_27 : decode cX7_keep 27 = .ok (.return_, 1) := by decide +kernel
theorem dX7_comeBack_0 : decode cX7_comeBack 0 = .ok (.iconst 0, 1) := by decide +kernel
theorem dX7_comeBack_1 : decode cX7_comeBack 1 = .ok (.istore_n 1, 1) := by decide +kernel
theorem dX7_comeBack_2 : decode cX7_comeBack 2 = .ok (.iload_n 1, 1) := by decide +kernel
theorem dX7_comeBack_3 : decode cX7_comeBack 3 = .ok (.sipush 470, 3) := by decide +kernel
theorem dX7_comeBack_6 : decode cX7_comeBack 6 = .ok (.if_icmp .ge 21, 3) := by decide +kernel
theorem dX7_comeBack_9 : decode cX7_comeBack 9 = .ok (.aload_n 0, 1) := by decide +kernel
theorem dX7_comeBack_10 : decode cX7_comeBack 10 = .ok (.getfield 7, 3) := by decide +kernel
theorem dX7_comeBack_13 : decode cX7_comeBack 13 = .ok (.iload_n 1, 1) := by decide +kernel
theorem dX7_comeBack_14 : decode cX7_comeBack 14 = .ok (.aload_n 0, 1) := by decide +kernel
theorem dX7_comeBack_15 : decode cX7_comeBack 15 = .ok (.getfield 13, 3) := by decide +kernel
theorem dX7_comeBack_18 : decode cX7_comeBack 18 = .ok (.iload_n 1, 1) := by decide +kernel
theorem dX7_comeBack_19 : decode cX7_comeBack 19 = .ok (.iaload, 1) := by decide +kernel
theorem dX7_comeBack_20 : decode cX7_comeBack 20 = .ok (.iastore, 1) := by decide +kernel
theorem dX7_comeBack_21 : decode cX7_comeBack 21 = .ok (.iinc 1 1, 3) := by decide +kernel
theorem dX7_comeBack_24 : decode cX7_comeBack 24 = .ok (.goto (-22), 3) := by decide +kernel
theorem dX7_comeBack_27 : decode cX7_comeBack 27 = .ok (.return_, 1) := by decide +kernel
theorem dX7_isEmptyInStack_0 : decode cX7_isEmptyInStack 0 = .ok (.iconst 1, 1) := by decide +kernel
theorem dX7_isEmptyInStack_1 : decode cX7_isEmptyInStack 1 = .ok (.istore_n 2, 1) := by decide +kernel
theorem dX7_isEmptyInStack_2 : decode cX7_isEmptyInStack 2 = .ok (.aload_n 0, 1) := by decide +kernel
theorem dX7_isEmptyInStack_3 : decode cX7_isEmptyInStack 3 = .ok (.getfield 7, 3) := by decide +kernel
theorem dX7_isEmptyInStack_6 : decode cX7_isEmptyInStack 6 = .ok (.iconst 2, 1) := by decide +kernel
theorem dX7_isEmptyInStack_7 : decode cX7_isEmptyInStack 7 = .ok (.iaload, 1) := by decide +kernel
theorem dX7_isEmptyInStack_8 : decode cX7_isEmptyInStack 8 = .ok (.istore_n 3, 1) := by decide +kernel
theorem dX7_isEmptyInStack_9 : decode cX7_isEmptyInStack 9 = .ok (.iload_n 3, 1) := by decide +kernel
theorem dX7_isEmptyInStack_10 : decode cX7_isEmptyInStack 10 = .ok (.aload_n 0, 1) := by decide +kernel
theorem dX7_isEmptyInStack_11 : decode cX7_isEmptyInStack 11 = .ok (.getfield 7, 3) := by decide +kernel
theorem dX7_isEmptyInStack_14 : decode cX7_isEmptyInStack 14 = .ok (.iconst 3, 1) := by decide +kernel
theorem dX7_isEmptyInStack_15 : decode cX7_isEmptyInStack 15 = .ok (.iaload, 1) := by decide +kernel
theorem dX7_isEmptyInStack_16 : decode cX7_isEmptyInStack 16 = .ok (.if_icmp .gt 28, 3) := by decide +kernel
theorem dX7_isEmptyInStack_19 : decode cX7_isEmptyInStack 19 = .ok (.iload_n 2, 1) := by decide +kernel
theorem dX7_isEmptyInStack_20 : decode cX7_isEmptyInStack 20 = .ok (.ifCond .eq 16, 3) := by decide +kernel
theorem dX7_isEmptyInStack_23 : decode cX7_isEmptyInStack 23 = .ok (.aload_n 0, 1) := by decide +kernel
theorem dX7_isEmptyInStack_24 : decode cX7_isEmptyInStack 24 = .ok (.iload_n 3, 1) := by decide +kernel
theorem dX7_isEmptyInStack_25 : decode cX7_isEmptyInStack 25 = .ok (.iload_n 1, 1) := by decide +kernel
theorem dX7_isEmptyInStack_26 : decode cX7_isEmptyInStack 26 = .ok (.invokevirtual 108, 3) := by decide +kernel
theorem dX7_isEmptyInStack_29 : decode cX7_isEmptyInStack 29 = .ok (.ifCond .ge 7, 3) := by decide +kernel
theorem dX7_isEmptyInStack_32 : decode cX7_isEmptyInStack 32 = .ok (.iconst 1, 1) := by decide +kernel
theorem dX7_isEmptyInStack_33 : decode cX7_isEmptyInStack 33 = .ok (.goto 4, 3) := by decide +kernel
theorem dX7_isEmptyInStack_36 : decode cX7_isEmptyInStack 36 = .ok (.iconst 0, 1) := by decide +kernel
theorem dX7_isEmptyInStack_37 : decode cX7_isEmptyInStack 37 = .ok (.istore_n 2, 1) := by decide +kernel
theorem dX7_isEmptyInStack_38 : decode cX7_isEmptyInStack 38 = .ok (.iinc 3 1, 3) := by decide +kernel
theorem dX7_isEmptyInStack_41 : decode cX7_isEmptyInStack 41 = .ok (.goto (-32), 3) := by decide +kernel
theorem dX7_isEmptyInStack_44 : decode cX7_isEmptyInStack 44 = .ok (.iload_n 2, 1) := by decide +kernel
theorem dX7_isEmptyInStack_45 : decode cX7_isEmptyInStack 45 = .ok (.ireturn, 1) := by decide +kernel
theorem dX7_strikeFor_0 : decode cX7_strikeFor 0 = .ok (.iload_n 1, 1) := by decide +kernel
theorem dX7_strikeFor_1 : decode cX7_strikeFor 1 = .ok (.invokestatic 75, 3) := by decide +kernel
theorem dX7_strikeFor_4 : decode cX7_strikeFor 4 = .ok (.ifCond .ne 5, 3) := by decide +kernel
theorem dX7_strikeFor_7 : decode cX7_strikeFor 7 = .ok (.iconst (-1), 1) := by decide +kernel
theorem dX7_strikeFor_8 : decode cX7_strikeFor 8 = .ok (.ireturn, 1) := by decide +kernel
theorem dX7_strikeFor_9 : decode cX7_strikeFor 9 = .ok (.aload_n 0, 1) := by decide +kernel
theorem dX7_strikeFor_10 : decode cX7_strikeFor 10 = .ok (.invokevirtual 78, 3) := by decide +kernel
theorem dX7_strikeFor_13 : decode cX7_strikeFor 13 = .ok (.ifCond .ne 6, 3) := by decide +kernel
theorem dX7_strikeFor_16 : decode cX7_strikeFor 16 = .ok (.bipush (-6), 2) := by decide +kernel
theorem dX7_strikeFor_18 : decode cX7_strikeFor 18 = .ok (.ireturn, 1) := by decide +kernel
theorem dX7_strikeFor_19 : decode cX7_strikeFor 19 = .ok (.aload_n 0, 1) := by decide +kernel
theorem dX7_strikeFor_20 : decode cX7_strikeFor 20 = .ok (.invokevirtual 159, 3) := by decide +kernel
theorem dX7_strikeFor_23 : decode cX7_strikeFor 23 = .ok (.iconst 1, 1) := by decide +kernel
theorem dX7_strikeFor_24 : decode cX7_strikeFor 24 = .ok (.istore_n 2, 1) := by decide +kernel
theorem dX7_strikeFor_25 : decode cX7_strikeFor 25 = .ok (.iload_n 2, 1) := by decide +kernel
theorem dX7_strikeFor_26 : decode cX7_strikeFor 26 = .ok (.bipush 10, 2) := by decide +kernel
theorem dX7_strikeFor_28 : decode cX7_strikeFor 28 = .ok (.if_icmp .ge 32, 3) := by decide +kernel
theorem dX7_strikeFor_31 : decode cX7_strikeFor 31 = .ok (.aload_n 0, 1) := by decide +kernel
theorem dX7_strikeFor_32 : decode cX7_strikeFor 32 = .ok (.iload_n 1, 1) := by decide +kernel
theorem dX7_strikeFor_33 : decode cX7_strikeFor 33 = .ok (.iload_n 2, 1) := by decide +kernel
theorem dX7_strikeFor_34 : decode cX7_strikeFor 34 = .ok (.invokevirtual 102, 3) := by decide +kernel
theorem dX7_strikeFor_37 : decode cX7_strikeFor 37 = .ok (.pop, 1) := by decide +kernel
theorem dX7_strikeFor_38 : decode cX7_strikeFor 38 = .ok (.aload_n 0, 1) := by decide +kernel
theorem dX7_strikeFor_39 : decode cX7_strikeFor 39 = .ok (.iload_n 1, 1) := by decide +kernel
theorem dX7_strikeFor_40 : decode cX7_strikeFor 40 = .ok (.invokevirtual 162, 3) := by decide +kernel
theorem dX7_strikeFor_43 : decode cX7_strikeFor 43 = .ok (.istore_n 3, 1) := by decide +kernel
theorem dX7_strikeFor_44 : decode cX7_strikeFor 44 = .ok (.aload_n 0, 1) := by decide +kernel
theorem dX7_strikeFor_45 : decode cX7_strikeFor 45 = .ok (.invokevirtual 165, 3) := by decide +kernel
theorem dX7_strikeFor_48 : decode cX7_strikeFor 48 = .ok (.iload_n 3, 1) := by decide +kernel
theorem dX7_strikeFor_49 : decode cX7_strikeFor 49 = .ok (.ifCond .eq 5, 3) := by decide +kernel
theorem dX7_strikeFor_52 : decode cX7_strikeFor 52 = .ok (.iload_n 2, 1) := by decide +kernel
theorem dX7_strikeFor_53 : decode cX7_strikeFor 53 = .ok (.ireturn, 1) := by decide +kernel
theorem dX7_strikeFor_54 : decode cX7_strikeFor 54 = .ok (.iinc 2 1, 3) := by decide +kernel
theorem dX7_strikeFor_57 : decode cX7_strikeFor 57 = .ok (.goto (-32), 3) := by decide +kernel
theorem dX7_strikeFor_60 : decode cX7_strikeFor 60 = .ok (.bipush (-6), 2) := by decide +kernel
theorem dX7_strikeFor_62 : decode cX7_strikeFor 62 = .ok (.ireturn, 1) := by decide +kernel
theorem dX7_lasts_0 : decode cX7_lasts 0 = .ok (.iload_n 1, 1) := by decide +kernel
theorem dX7_lasts_1 : decode cX7_lasts 1 = .ok (.iconst 1, 1) := by decide +kernel
theorem dX7_lasts_2 : decode cX7_lasts 2 = .ok (.bipush 9, 2) := by decide +kernel
theorem dX7_lasts_4 : decode cX7_lasts 4 = .ok (.invokestatic 43, 3) := by decide +kernel
theorem dX7_lasts_7 : decode cX7_lasts 7 = .ok (.ifCond .ne 6, 3) := by decide +kernel
theorem dX7_lasts_10 : decode cX7_lasts 10 = .ok (.bipush (-2), 2) := by decide +kernel
theorem dX7_lasts_12 : decode cX7_lasts 12 = .ok (.ireturn, 1) := by decide +kernel
theorem dX7_lasts_13 : decode cX7_lasts 13 = .ok (.aload_n 0, 1) := by decide +kernel
theorem dX7_lasts_14 : decode cX7_lasts 14 = .ok (.invokevirtual 78, 3) := by decide +kernel
theorem dX7_lasts_17 : decode cX7_lasts 17 = .ok (.ifCond .ne 6, 3) := by decide +kernel
theorem dX7_lasts_20 : decode cX7_lasts 20 = .ok (.bipush (-5), 2) := by decide +kernel
theorem dX7_lasts_22 : decode cX7_lasts 22 = .ok (.ireturn, 1) := by decide +kernel
theorem dX7_lasts_23 : decode cX7_lasts 23 = .ok (.sipush 1000, 3) := by decide +kernel
theorem dX7_lasts_26 : decode cX7_lasts 26 = .ok (.istore_n 2, 1) := by decide +kernel
theorem dX7_lasts_27 : decode cX7_lasts 27 = .ok (.iload_n 1, 1) := by decide +kernel
theorem dX7_lasts_28 : decode cX7_lasts 28 = .ok (.istore_n 3, 1) := by decide +kernel
theorem dX7_lasts_29 : decode cX7_lasts 29 = .ok (.aload_n 0, 1) := by decide +kernel
theorem dX7_lasts_30 : decode cX7_lasts 30 = .ok (.getfield 7, 3) := by decide +kernel
theorem dX7_lasts_33 : decode cX7_lasts 33 = .ok (.iconst 2, 1) := by decide +kernel
theorem dX7_lasts_34 : decode cX7_lasts 34 = .ok (.iaload, 1) := by decide +kernel
theorem dX7_lasts_35 : decode cX7_lasts 35 = .ok (.istore 4, 2) := by decide +kernel
theorem dX7_lasts_37 : decode cX7_lasts 37 = .ok (.iload 4, 2) := by decide +kernel
theorem dX7_lasts_39 : decode cX7_lasts 39 = .ok (.aload_n 0, 1) := by decide +kernel
theorem dX7_lasts_40 : decode cX7_lasts 40 = .ok (.getfield 7, 3) := by decide +kernel
theorem dX7_lasts_43 : decode cX7_lasts 43 = .ok (.iconst 3, 1) := by decide +kernel
theorem dX7_lasts_44 : decode cX7_lasts 44 = .ok (.iaload, 1) := by decide +kernel
theorem dX7_lasts_45 : decode cX7_lasts 45 = .ok (.if_icmp .ge 60, 3) := by decide +kernel
theorem dX7_lasts_48 : decode cX7_lasts 48 = .ok (.iload_n 3, 1) := by decide +kernel
theorem dX7_lasts_49 : decode cX7_lasts 49 = .ok (.aload_n 0, 1) := by decide +kernel
theorem dX7_lasts_50 : decode cX7_lasts 50 = .ok (.getfield 7, 3) := by decide +kernel
theorem dX7_lasts_53 : decode cX7_lasts 53 = .ok (.iconst 4, 1) := by decide +kernel
theorem dX7_lasts_54 : decode cX7_lasts 54 = .ok (.iload 4, 2) := by decide +kernel
theorem dX7_lasts_56 : decode cX7_lasts 56 = .ok (.iadd, 1) := by decide +kernel
theorem dX7_lasts_57 : decode cX7_lasts 57 = .ok (.iaload, 1) := by decide +kernel
theorem dX7_lasts_58 : decode cX7_lasts 58 = .ok (.isub, 1) := by decide +kernel
theorem dX7_lasts_59 : decode cX7_lasts 59 = .ok (.istore_n 3, 1) := by decide +kernel
theorem dX7_lasts_60 : decode cX7_lasts 60 = .ok (.aload_n 0, 1) := by decide +kernel
theorem dX7_lasts_61 : decode cX7_lasts 61 = .ok (.getfield 7, 3) := by decide +kernel
theorem dX7_lasts_64 : decode cX7_lasts 64 = .ok (.bipush 9, 2) := by decide +kernel
theorem dX7_lasts_66 : decode cX7_lasts 66 = .ok (.iload 4, 2) := by decide +kernel
theorem dX7_lasts_68 : decode cX7_lasts 68 = .ok (.iadd, 1) := by decide +kernel
theorem dX7_lasts_69 : decode cX7_lasts 69 = .ok (.iaload, 1) := by decide +kernel
theorem dX7_lasts_70 : decode cX7_lasts 70 = .ok (.iload_n 2, 1) := by decide +kernel
theorem dX7_lasts_71 : decode cX7_lasts 71 = .ok (.if_icmp .ge 16, 3) := by decide +kernel
theorem dX7_lasts_74 : decode cX7_lasts 74 = .ok (.aload_n 0, 1) := by decide +kernel
theorem dX7_lasts_75 : decode cX7_lasts 75 = .ok (.getfield 7, 3) := by decide +kernel
theorem dX7_lasts_78 : decode cX7_lasts 78 = .ok (.bipush 9, 2) := by decide +kernel
theorem dX7_lasts_80 : decode cX7_lasts 80 = .ok (.iload 4, 2) := by decide +kernel
theorem dX7_lasts_82 : decode cX7_lasts 82 = .ok (.iadd, 1) := by decide +kernel
theorem dX7_lasts_83 : decode cX7_lasts 83 = .ok (.iaload, 1) := by decide +kernel
theorem dX7_lasts_84 : decode cX7_lasts 84 = .ok (.goto 4, 3) := by decide +kernel
theorem dX7_lasts_87 : decode cX7_lasts 87 = .ok (.iload_n 2, 1) := by decide +kernel
theorem dX7_lasts_88 : decode cX7_lasts 88 = .ok (.istore_n 2, 1) := by decide +kernel
theorem dX7_lasts_89 : decode cX7_lasts 89 = .ok (.iload_n 3, 1) := by decide +kernel
theorem dX7_lasts_90 : decode cX7_lasts 90 = .ok (.ifCond .gt 7, 3) := by decide +kernel
theorem dX7_lasts_93 : decode cX7_lasts 93 = .ok (.iconst 0, 1) := by decide +kernel
theorem dX7_lasts_94 : decode cX7_lasts 94 = .ok (.goto 4, 3) := by decide +kernel
theorem dX7_lasts_97 : decode cX7_lasts 97 = .ok (.iload_n 2, 1) := by decide +kernel
theorem dX7_lasts_98 : decode cX7_lasts 98 = .ok (.istore_n 2, 1) := by decide +kernel
theorem dX7_lasts_99 : decode cX7_lasts 99 = .ok (.iinc 4 1, 3) := by decide +kernel
theorem dX7_lasts_102 : decode cX7_lasts 102 = .ok (.goto (-65), 3) := by decide +kernel
theorem dX7_lasts_105 : decode cX7_lasts 105 = .ok (.iload_n 2, 1) := by decide +kernel
theorem dX7_lasts_106 : decode cX7_lasts 106 = .ok (.ireturn, 1) := by decide +kernel
theorem dX7_ifWritten_0 : decode cX7_ifWritten 0 = .ok (.aload_n 0, 1) := by decide +kernel
theorem dX7_ifWritten_1 : decode cX7_ifWritten 1 = .ok (.iload_n 1, 1) := by decide +kernel
theorem dX7_ifWritten_2 : decode cX7_ifWritten 2 = .ok (.iload_n 2, 1) := by decide +kernel
theorem dX7_ifWritten_3 : decode cX7_ifWritten 3 = .ok (.iload_n 3, 1) := by decide +kernel
theorem dX7_ifWritten_4 : decode cX7_ifWritten 4 = .ok (.invokevirtual 93, 3) := by decide +kernel
theorem dX7_ifWritten_7 : decode cX7_ifWritten 7 = .ok (.istore 4, 2) := by decide +kernel
theorem dX7_ifWritten_9 : decode cX7_ifWritten 9 = .ok (.iload 4, 2) := by decide +kernel
theorem dX7_ifWritten_11 : decode cX7_ifWritten 11 = .ok (.ifCond .ge 6, 3) := by decide +kernel
theorem dX7_ifWritten_14 : decode cX7_ifWritten 14 = .ok (.iload 4, 2) := by decide +kernel
theorem dX7_ifWritten_16 : decode cX7_ifWritten 16 = .ok (.ireturn, 1) := by decide +kernel
theorem dX7_ifWritten_17 : decode cX7_ifWritten 17 = .ok (.aload_n 0, 1) := by decide +kernel
theorem dX7_ifWritten_18 : decode cX7_ifWritten 18 = .ok (.invokevirtual 159, 3) := by decide +kernel
theorem dX7_ifWritten_21 : decode cX7_ifWritten 21 = .ok (.aload_n 0, 1) := by decide +kernel
theorem dX7_ifWritten_22 : decode cX7_ifWritten 22 = .ok (.iload_n 1, 1) := by decide +kernel
theorem dX7_ifWritten_23 : decode cX7_ifWritten 23 = .ok (.iload_n 2, 1) := by decide +kernel
theorem dX7_ifWritten_24 : decode cX7_ifWritten 24 = .ok (.iload_n 3, 1) := by decide +kernel
theorem dX7_ifWritten_25 : decode cX7_ifWritten 25 = .ok (.invokevirtual 96, 3) := by decide +kernel
theorem dX7_ifWritten_28 : decode cX7_ifWritten 28 = .ok (.pop, 1) := by decide +kernel
theorem dX7_ifWritten_29 : decode cX7_ifWritten 29 = .ok (.aload_n 0, 1) := by decide +kernel
theorem dX7_ifWritten_30 : decode cX7_ifWritten 30 = .ok (.iload_n 1, 1) := by decide +kernel
theorem dX7_ifWritten_31 : decode cX7_ifWritten 31 = .ok (.invokevirtual 145, 3) := by decide +kernel
theorem dX7_ifWritten_34 : decode cX7_ifWritten 34 = .ok (.aload_n 0, 1) := by decide +kernel
theorem dX7_ifWritten_35 : decode cX7_ifWritten 35 = .ok (.invokevirtual 165, 3) := by decide +kernel
theorem dX7_ifWritten_38 : decode cX7_ifWritten 38 = .ok (.aload_n 0, 1) := by decide +kernel
theorem dX7_ifWritten_39 : decode cX7_ifWritten 39 = .ok (.getfield 127, 3) := by decide +kernel
theorem dX7_ifWritten_42 : decode cX7_ifWritten 42 = .ok (.iconst 1, 1) := by decide +kernel
theorem dX7_ifWritten_43 : decode cX7_ifWritten 43 = .ok (.if_icmp .ne 10, 3) := by decide +kernel
theorem dX7_ifWritten_46 : decode cX7_ifWritten 46 = .ok (.aload_n 0, 1) := by decide +kernel
theorem dX7_ifWritten_47 : decode cX7_ifWritten 47 = .ok (.getfield 130, 3) := by decide +kernel
theorem dX7_ifWritten_50 : decode cX7_ifWritten 50 = .ok (.goto 5, 3) := by decide +kernel
theorem dX7_ifWritten_53 : decode cX7_ifWritten 53 = .ok (.bipush (-6), 2) := by decide +kernel
theorem dX7_ifWritten_55 : decode cX7_ifWritten 55 = .ok (.ireturn, 1) := by decide +kernel
theorem dX7_sign_0 : decode cX7_sign 0 = .ok (.aload_n 0, 1) := by decide +kernel
theorem dX7_sign_1 : decode cX7_sign 1 = .ok (.getfield 168, 3) := by decide +kernel
theorem dX7_sign_4 : decode cX7_sign 4 = .ok (.aload_n 0, 1) := by decide +kernel
theorem dX7_sign_5 : decode cX7_sign 5 = .ok (.getfield 156, 3) := by decide +kernel
theorem dX7_sign_8 : decode cX7_sign 8 = .ok (.if_icmp .ge 15, 3) := by decide +kernel
theorem dX7_sign_11 : decode cX7_sign 11 = .ok (.aload_n 0, 1) := by decide +kernel
theorem dX7_sign_12 : decode cX7_sign 12 = .ok (.getfield 26, 3) := by decide +kernel
theorem dX7_sign_15 : decode cX7_sign 15 = .ok (.aload_n 0, 1) := by decide +kernel
theorem dX7_sign_16 : decode cX7_sign 16 = .ok (.getfield 168, 3) := by decide +kernel
theorem dX7_sign_19 : decode cX7_sign 19 = .ok (.iaload, 1) := by decide +kernel
theorem dX7_sign_20 : decode cX7_sign 20 = .ok (.goto 4, 3) := by decide +kernel
theorem dX7_sign_23 : decode cX7_sign 23 = .ok (.iconst 0, 1) := by decide +kernel
theorem dX7_sign_24 : decode cX7_sign 24 = .ok (.ireturn, 1) := by decide +kernel
theorem dX7_one_0 : decode cX7_one 0 = .ok (.aload_n 0, 1) := by decide +kernel
theorem dX7_one_1 : decode cX7_one 1 = .ok (.invokevirtual 171, 3) := by decide +kernel
theorem dX7_one_4 : decode cX7_one 4 = .ok (.bipush 48, 2) := by decide +kernel
theorem dX7_one_6 : decode cX7_one 6 = .ok (.isub, 1) := by decide +kernel
theorem dX7_one_7 : decode cX7_one 7 = .ok (.istore_n 3, 1) := by decide +kernel
theorem dX7_one_8 : decode cX7_one 8 = .ok (.aload_n 0, 1) := by decide +kernel
theorem dX7_one_9 : decode cX7_one 9 = .ok (.aload_n 0, 1) := by decide +kernel
theorem dX7_one_10 : decode cX7_one 10 = .ok (.getfield 174, 3) := by decide +kernel
theorem dX7_one_13 : decode cX7_one 13 = .ok (.ifCond .ne 12, 3) := by decide +kernel
theorem dX7_one_16 : decode cX7_one 16 = .ok (.iload_n 3, 1) := by decide +kernel
theorem dX7_one_17 : decode cX7_one 17 = .ok (.iload_n 1, 1) := by decide +kernel
theorem dX7_one_18 : decode cX7_one 18 = .ok (.iload_n 2, 1) := by decide +kernel
theorem dX7_one_19 : decode cX7_one 19 = .ok (.invokestatic 43, 3) := by decide +kernel
theorem dX7_one_22 : decode cX7_one 22 = .ok (.ifCond .ne 7, 3) := by decide +kernel
theorem dX7_one_25 : decode cX7_one 25 = .ok (.iconst 1, 1) := by decide +kernel
theorem dX7_one_26 : decode cX7_one 26 = .ok (.goto 4, 3) := by decide +kernel
theorem dX7_one_29 : decode cX7_one 29 = .ok (.iconst 0, 1) := by decide +kernel
theorem dX7_one_30 : decode cX7_one 30 = .ok (.putfield 174, 3) := by decide +kernel
theorem dX7_one_33 : decode cX7_one 33 = .ok (.aload_n 0, 1) := by decide +kernel
theorem dX7_one_34 : decode cX7_one 34 = .ok (.dup, 1) := by decide +kernel
theorem dX7_one_35 : decode cX7_one 35 = .ok (.getfield 168, 3) := by decide +kernel
theorem dX7_one_38 : decode cX7_one 38 = .ok (.aload_n 0, 1) := by decide +kernel
theorem dX7_one_39 : decode cX7_one 39 = .ok (.getfield 174, 3) := by decide +kernel
theorem dX7_one_42 : decode cX7_one 42 = .ok (.ifCond .eq 7, 3) := by decide +kernel
theorem dX7_one_45 : decode cX7_one 45 = .ok (.iconst 0, 1) := by decide +kernel
theorem dX7_one_46 : decode cX7_one 46 = .ok (.goto 4, 3) := by decide +kernel
theorem dX7_one_49 : decode cX7_one 49 = .ok (.iconst 1, 1) := by decide +kernel
theorem dX7_one_50 : decode cX7_one 50 = .ok (.iadd, 1) := by decide +kernel
theorem dX7_one_51 : decode cX7_one 51 = .ok (.putfield 168, 3) := by decide +kernel
theorem dX7_one_54 : decode cX7_one 54 = .ok (.iload_n 3, 1) := by decide +kernel
theorem dX7_one_55 : decode cX7_one 55 = .ok (.ireturn, 1) := by decide +kernel
theorem dX7_between_0 : decode cX7_between 0 = .ok (.aload_n 0, 1) := by decide +kernel
theorem dX7_between_1 : decode cX7_between 1 = .ok (.aload_n 0, 1) := by decide +kernel
theorem dX7_between_2 : decode cX7_between 2 = .ok (.getfield 174, 3) := by decide +kernel
theorem dX7_between_5 : decode cX7_between 5 = .ok (.ifCond .ne 11, 3) := by decide +kernel
theorem dX7_between_8 : decode cX7_between 8 = .ok (.aload_n 0, 1) := by decide +kernel
theorem dX7_between_9 : decode cX7_between 9 = .ok (.invokevirtual 171, 3) := by decide +kernel
theorem dX7_between_12 : decode cX7_between 12 = .ok (.iload_n 1, 1) := by decide +kernel
theorem dX7_between_13 : decode cX7_between 13 = .ok (.if_icmp .eq 7, 3) := by decide +kernel
theorem dX7_between_16 : decode cX7_between 16 = .ok (.iconst 1, 1) := by decide +kernel
theorem dX7_between_17 : decode cX7_between 17 = .ok (.goto 4, 3) := by decide +kernel
theorem dX7_between_20 : decode cX7_between 20 = .ok (.iconst 0, 1) := by decide +kernel
theorem dX7_between_21 : decode cX7_between 21 = .ok (.putfield 174, 3) := by decide +kernel
theorem dX7_between_24 : decode cX7_between 24 = .ok (.aload_n 0, 1) := by decide +kernel
theorem dX7_between_25 : decode cX7_between 25 = .ok (.dup, 1) := by decide +kernel
theorem dX7_between_26 : decode cX7_between 26 = .ok (.getfield 168, 3) := by decide +kernel
theorem dX7_between_29 : decode cX7_between 29 = .ok (.aload_n 0, 1) := by decide +kernel
theorem dX7_between_30 : decode cX7_between 30 = .ok (.getfield 174, 3) := by decide +kernel
theorem dX7_between_33 : decode cX7_between 33 = .ok (.ifCond .eq 7, 3) := by decide +kernel
theorem dX7_between_36 : decode cX7_between 36 = .ok (.iconst 0, 1) := by decide +kernel
theorem dX7_between_37 : decode cX7_between 37 = .ok (.goto 4, 3) := by decide +kernel
theorem dX7_between_40 : decode cX7_between 40 = .ok (.iconst 1, 1) := by decide +kernel
theorem dX7_between_41 : decode cX7_between 41 = .ok (.iadd, 1) := by decide +kernel
theorem dX7_between_42 : decode cX7_between 42 = .ok (.putfield 168, 3) := by decide +kernel
theorem dX7_between_45 : decode cX7_between 45 = .ok (.return_, 1) := by decide +kernel
theorem dX7_number_0 : decode cX7_number 0 = .ok (.aload_n 0, 1) := by decide +kernel
theorem dX7_number_1 : decode cX7_number 1 = .ok (.iconst 0, 1) := by decide +kernel
theorem dX7_number_2 : decode cX7_number 2 = .ok (.bipush 9, 2) := by decide +kernel
theorem dX7_number_4 : decode cX7_number 4 = .ok (.invokevirtual 177, 3) := by decide +kernel
theorem dX7_number_7 : decode cX7_number 7 = .ok (.istore_n 1, 1) := by decide +kernel
theorem dX7_number_8 : decode cX7_number 8 = .ok (.aload_n 0, 1) := by decide +kernel
theorem dX7_number_9 : decode cX7_number 9 = .ok (.getfield 174, 3) := by decide +kernel
theorem dX7_number_12 : decode cX7_number 12 = .ok (.ifCond .ne 65, 3) := by decide +kernel
theorem dX7_number_15 : decode cX7_number 15 = .ok (.iload_n 1, 1) := by decide +kernel
theorem dX7_number_16 : decode cX7_number 16 = .ok (.ifCond .le 61, 3) := by decide +kernel
theorem dX7_number_19 : decode cX7_number 19 = .ok (.aload_n 0, 1) := by decide +kernel
theorem dX7_number_20 : decode cX7_number 20 = .ok (.invokevirtual 171, 3) := by decide +kernel
theorem dX7_number_23 : decode cX7_number 23 = .ok (.bipush 48, 2) := by decide +kernel
theorem dX7_number_25 : decode cX7_number 25 = .ok (.bipush 57, 2) := by decide +kernel
theorem dX7_number_27 : decode cX7_number 27 = .ok (.invokestatic 43, 3) := by decide +kernel
theorem dX7_number_30 : decode cX7_number 30 = .ok (.ifCond .eq 47, 3) := by decide +kernel
theorem dX7_number_33 : decode cX7_number 33 = .ok (.bipush 10, 2) := by decide +kernel
theorem dX7_number_35 : decode cX7_number 35 = .ok (.iload_n 1, 1) := by decide +kernel
theorem dX7_number_36 : decode cX7_number 36 = .ok (.imul, 1) := by decide +kernel
theorem dX7_number_37 : decode cX7_number 37 = .ok (.aload_n 0, 1) := by decide +kernel
theorem dX7_number_38 : decode cX7_number 38 = .ok (.invokevirtual 171, 3) := by decide +kernel
theorem dX7_number_41 : decode cX7_number 41 = .ok (.iadd, 1) := by decide +kernel
theorem dX7_number_42 : decode cX7_number 42 = .ok (.bipush 48, 2) := by decide +kernel
theorem dX7_number_44 : decode cX7_number 44 = .ok (.isub, 1) := by decide +kernel
theorem dX7_number_45 : decode cX7_number 45 = .ok (.sipush 999, 3) := by decide +kernel
theorem dX7_number_48 : decode cX7_number 48 = .ok (.if_icmp .gt 29, 3) := by decide +kernel
theorem dX7_number_51 : decode cX7_number 51 = .ok (.bipush 10, 2) := by decide +kernel
theorem dX7_number_53 : decode cX7_number 53 = .ok (.iload_n 1, 1) := by decide +kernel
theorem dX7_number_54 : decode cX7_number 54 = .ok (.imul, 1) := by decide +kernel
theorem dX7_number_55 : decode cX7_number 55 = .ok (.aload_n 0, 1) := by decide +kernel
theorem dX7_number_56 : decode cX7_number 56 = .ok (.invokevirtual 171, 3) := by decide +kernel
theorem dX7_number_59 : decode cX7_number 59 = .ok (.iadd, 1) := by decide +kernel
theorem dX7_number_60 : decode cX7_number 60 = .ok (.bipush 48, 2) := by decide +kernel
theorem dX7_number_62 : decode cX7_number 62 = .ok (.isub, 1) := by decide +kernel
theorem dX7_number_63 : decode cX7_number 63 = .ok (.istore_n 1, 1) := by decide +kernel
theorem dX7_number_64 : decode cX7_number 64 = .ok (.aload_n 0, 1) := by decide +kernel
theorem dX7_number_65 : decode cX7_number 65 = .ok (.dup, 1) := by decide +kernel
theorem dX7_number_66 : decode cX7_number 66 = .ok (.getfield 168, 3) := by decide +kernel
theorem dX7_number_69 : decode cX7_number 69 = .ok (.iconst 1, 1) := by decide +kernel
theorem dX7_number_70 : decode cX7_number 70 = .ok (.iadd, 1) := by decide +kernel
theorem dX7_number_71 : decode cX7_number 71 = .ok (.putfield 168, 3) := by decide +kernel
theorem dX7_number_74 : decode cX7_number 74 = .ok (.goto (-66), 3) := by decide +kernel
theorem dX7_number_77 : decode cX7_number 77 = .ok (.iload_n 1, 1) := by decide +kernel
theorem dX7_number_78 : decode cX7_number 78 = .ok (.ireturn, 1) := by decide +kernel
theorem dX7_readOne_0 : decode cX7_readOne 0 = .ok (.iconst 4, 1) := by decide +kernel
theorem dX7_readOne_1 : decode cX7_readOne 1 = .ok (.aload_n 0, 1) := by decide +kernel
theorem dX7_readOne_2 : decode cX7_readOne 2 = .ok (.getfield 180, 3) := by decide +kernel
theorem dX7_readOne_5 : decode cX7_readOne 5 = .ok (.imul, 1) := by decide +kernel
theorem dX7_readOne_6 : decode cX7_readOne 6 = .ok (.istore_n 1, 1) := by decide +kernel
theorem dX7_readOne_7 : decode cX7_readOne 7 = .ok (.aload_n 0, 1) := by decide +kernel
theorem dX7_readOne_8 : decode cX7_readOne 8 = .ok (.invokevirtual 171, 3) := by decide +kernel
theorem dX7_readOne_11 : decode cX7_readOne 11 = .ok (.istore_n 2, 1) := by decide +kernel
theorem dX7_readOne_12 : decode cX7_readOne 12 = .ok (.aload_n 0, 1) := by decide +kernel
theorem dX7_readOne_13 : decode cX7_readOne 13 = .ok (.getfield 32, 3) := by decide +kernel
theorem dX7_readOne_16 : decode cX7_readOne 16 = .ok (.iload_n 1, 1) := by decide +kernel
theorem dX7_readOne_17 : decode cX7_readOne 17 = .ok (.iload_n 2, 1) := by decide +kernel
theorem dX7_readOne_18 : decode cX7_readOne 18 = .ok (.iastore, 1) := by decide +kernel
theorem dX7_readOne_19 : decode cX7_readOne 19 = .ok (.aload_n 0, 1) := by decide +kernel
theorem dX7_readOne_20 : decode cX7_readOne 20 = .ok (.iload_n 2, 1) := by decide +kernel
theorem dX7_readOne_21 : decode cX7_readOne 21 = .ok (.bipush 119, 2) := by decide +kernel
theorem dX7_readOne_23 : decode cX7_readOne 23 = .ok (.if_icmp .eq 25, 3) := by decide +kernel
theorem dX7_readOne_26 : decode cX7_readOne 26 = .ok (.iload_n 2, 1) := by decide +kernel
theorem dX7_readOne_27 : decode cX7_readOne 27 = .ok (.bipush 115, 2) := by decide +kernel
theorem dX7_readOne_29 : decode cX7_readOne 29 = .ok (.if_icmp .eq 19, 3) := by decide +kernel
theorem dX7_readOne_32 : decode cX7_readOne 32 = .ok (.iload_n 2, 1) := by decide +kernel
theorem dX7_readOne_33 : decode cX7_readOne 33 = .ok (.bipush 116, 2) := by decide +kernel
theorem dX7_readOne_35 : decode cX7_readOne 35 = .ok (.if_icmp .eq 13, 3) := by decide +kernel
theorem dX7_readOne_38 : decode cX7_readOne 38 = .ok (.iload_n 2, 1) := by decide +kernel
theorem dX7_readOne_39 : decode cX7_readOne 39 = .ok (.bipush 98, 2) := by decide +kernel
theorem dX7_readOne_41 : decode cX7_readOne 41 = .ok (.if_icmp .eq 7, 3) := by decide +kernel
theorem dX7_readOne_44 : decode cX7_readOne 44 = .ok (.iconst 1, 1) := by decide +kernel
theorem dX7_readOne_45 : decode cX7_readOne 45 = .ok (.goto 4, 3) := by decide +kernel
theorem dX7_readOne_48 : decode cX7_readOne 48 = .ok (.iconst 0, 1) := by decide +kernel
theorem dX7_readOne_49 : decode cX7_readOne 49 = .ok (.putfield 174, 3) := by decide +kernel
theorem dX7_readOne_52 : decode cX7_readOne 52 = .ok (.aload_n 0, 1) := by decide +kernel
theorem dX7_readOne_53 : decode cX7_readOne 53 = .ok (.getfield 174, 3) := by decide +kernel
theorem dX7_readOne_56 : decode cX7_readOne 56 = .ok (.ifCond .eq 4, 3) := by decide +kernel
theorem dX7_readOne_59 : decode cX7_readOne 59 = .ok (.return_, 1) := by decide +kernel
theorem dX7_readOne_60 : decode cX7_readOne 60 = .ok (.aload_n 0, 1) := by decide +kernel
theorem dX7_readOne_61 : decode cX7_readOne 61 = .ok (.dup, 1) := by decide +kernel
theorem dX7_readOne_62 : decode cX7_readOne 62 = .ok (.getfield 168, 3) := by decide +kernel
theorem dX7_readOne_65 : decode cX7_readOne 65 = .ok (.iconst 1, 1) := by decide +kernel
theorem dX7_readOne_66 : decode cX7_readOne 66 = .ok (.iadd, 1) := by decide +kernel
theorem dX7_readOne_67 : decode cX7_readOne 67 = .ok (.putfield 168, 3) := by decide +kernel
theorem dX7_readOne_70 : decode cX7_readOne 70 = .ok (.iload_n 2, 1) := by decide +kernel
theorem dX7_readOne_71 : decode cX7_readOne 71 = .ok (.bipush 119, 2) := by decide +kernel
theorem dX7_readOne_73 : decode cX7_readOne 73 = .ok (.if_icmp .eq 9, 3) := by decide +kernel
theorem dX7_readOne_76 : decode cX7_readOne 76 = .ok (.iload_n 2, 1) := by decide +kernel
theorem dX7_readOne_77 : decode cX7_readOne 77 = .ok (.bipush 115, 2) := by decide +kernel
theorem dX7_readOne_79 : decode cX7_readOne 79 = .ok (.if_icmp .ne 85, 3) := by decide +kernel
theorem dX7_readOne_82 : decode cX7_readOne 82 = .ok (.aload_n 0, 1) := by decide +kernel
theorem dX7_readOne_83 : decode cX7_readOne 83 = .ok (.getfield 32, 3) := by decide +kernel
theorem dX7_readOne_86 : decode cX7_readOne 86 = .ok (.iload_n 1, 1) := by decide +kernel
theorem dX7_readOne_87 : decode cX7_readOne 87 = .ok (.iconst 1, 1) := by decide +kernel
theorem dX7_readOne_88 : decode cX7_readOne 88 = .ok (.iadd, 1) := by decide +kernel
theorem dX7_readOne_89 : decode cX7_readOne 89 = .ok (.aload_n 0, 1) := by decide +kernel
theorem dX7_readOne_90 : decode cX7_readOne 90 = .ok (.iconst 0, 1) := by decide +kernel
theorem dX7_readOne_91 : decode cX7_readOne 91 = .ok (.bipush 9, 2) := by decide +kernel
theorem dX7_readOne_93 : decode cX7_readOne 93 = .ok (.invokevirtual 177, 3) := by decide +kernel
theorem dX7_readOne_96 : decode cX7_readOne 96 = .ok (.iastore, 1) := by decide +kernel
theorem dX7_readOne_97 : decode cX7_readOne 97 = .ok (.iload_n 2, 1) := by decide +kernel
theorem dX7_readOne_98 : decode cX7_readOne 98 = .ok (.bipush 119, 2) := by decide +kernel
theorem dX7_readOne_100 : decode cX7_readOne 100 = .ok (.if_icmp .ne 32, 3) := by decide +kernel
theorem dX7_readOne_103 : decode cX7_readOne 103 = .ok (.aload_n 0, 1) := by decide +kernel
theorem dX7_readOne_104 : decode cX7_readOne 104 = .ok (.bipush 61, 2) := by decide +kernel
theorem dX7_readOne_106 : decode cX7_readOne 106 = .ok (.invokevirtual 183, 3) := by decide +kernel
theorem dX7_readOne_109 : decode cX7_readOne 109 = .ok (.aload_n 0, 1) := by decide +kernel
theorem dX7_readOne_110 : decode cX7_readOne 110 = .ok (.getfield 32, 3) := by decide +kernel
theorem dX7_readOne_113 : decode cX7_readOne 113 = .ok (.iload_n 1, 1) := by decide +kernel
theorem dX7_readOne_114 : decode cX7_readOne 114 = .ok (.iconst 2, 1) := by decide +kernel
theorem dX7_readOne_115 : decode cX7_readOne 115 = .ok (.iadd, 1) := by decide +kernel
theorem dX7_readOne_116 : decode cX7_readOne 116 = .ok (.aload_n 0, 1) := by decide +kernel
theorem dX7_readOne_117 : decode cX7_readOne 117 = .ok (.getfield 174, 3) := by decide +kernel
theorem dX7_readOne_120 : decode cX7_readOne 120 = .ok (.ifCond .eq 7, 3) := by decide +kernel
theorem dX7_readOne_123 : decode cX7_readOne 123 = .ok (.iconst 0, 1) := by decide +kernel
theorem dX7_readOne_124 : decode cX7_readOne 124 = .ok (.goto 7, 3) := by decide +kernel
theorem dX7_readOne_127 : decode cX7_readOne 127 = .ok (.aload_n 0, 1) := by decide +kernel
theorem dX7_readOne_128 : decode cX7_readOne 128 = .ok (.invokevirtual 186, 3) := by decide +kernel
theorem dX7_readOne_131 : decode cX7_readOne 131 = .ok (.iastore, 1) := by decide +kernel
theorem dX7_readOne_132 : decode cX7_readOne 132 = .ok (.aload_n 0, 1) := by decide +kernel
theorem dX7_readOne_133 : decode cX7_readOne 133 = .ok (.bipush 33, 2) := by decide +kernel
theorem dX7_readOne_135 : decode cX7_readOne 135 = .ok (.invokevirtual 183, 3) := by decide +kernel
theorem dX7_readOne_138 : decode cX7_readOne 138 = .ok (.aload_n 0, 1) := by decide +kernel
theorem dX7_readOne_139 : decode cX7_readOne 139 = .ok (.getfield 32, 3) := by decide +kernel
theorem dX7_readOne_142 : decode cX7_readOne 142 = .ok (.iload_n 1, 1) := by decide +kernel
theorem dX7_readOne_143 : decode cX7_readOne 143 = .ok (.iconst 3, 1) := by decide +kernel
theorem dX7_readOne_144 : decode cX7_readOne 144 = .ok (.iadd, 1) := by decide +kernel
theorem dX7_readOne_145 : decode cX7_readOne 145 = .ok (.aload_n 0, 1) := by decide +kernel
theorem dX7_readOne_146 : decode cX7_readOne 146 = .ok (.getfield 174, 3) := by decide +kernel
theorem dX7_readOne_149 : decode cX7_readOne 149 = .ok (.ifCond .eq 7, 3) := by decide +kernel
theorem dX7_readOne_152 : decode cX7_readOne 152 = .ok (.iconst 0, 1) := by decide +kernel
theorem dX7_readOne_153 : decode cX7_readOne 153 = .ok (.goto 10, 3) := by decide +kernel
theorem dX7_readOne_156 : decode cX7_readOne 156 = .ok (.aload_n 0, 1) := by decide +kernel
theorem dX7_readOne_157 : decode cX7_readOne 157 = .ok (.iconst 1, 1) := by decide +kernel
theorem dX7_readOne_158 : decode cX7_readOne 158 = .ok (.bipush 9, 2) := by decide +kernel
theorem dX7_readOne_160 : decode cX7_readOne 160 = .ok (.invokevirtual 177, 3) := by decide +kernel
theorem dX7_readOne_163 : decode cX7_readOne 163 = .ok (.iastore, 1) := by decide +kernel
