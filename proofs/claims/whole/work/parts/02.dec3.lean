theorem dX4_init_0 : decode cX4_init 0 = .ok (.aload_n 0, 1) := by decide +kernel
theorem dX4_init_1 : decode cX4_init 1 = .ok (.invokespecial 3, 3) := by decide +kernel
theorem dX4_init_4 : decode cX4_init 4 = .ok (.aload_n 0, 1) := by decide +kernel
theorem dX4_init_5 : decode cX4_init 5 = .ok (.iconst 5, 1) := by decide +kernel
theorem dX4_init_6 : decode cX4_init 6 = .ok (.anewarray 9, 3) := by decide +kernel
theorem dX4_init_9 : decode cX4_init 9 = .ok (.putfield 11, 3) := by decide +kernel
theorem dX4_init_12 : decode cX4_init 12 = .ok (.aload_n 0, 1) := by decide +kernel
theorem dX4_init_13 : decode cX4_init 13 = .ok (.iconst 2, 1) := by decide +kernel
theorem dX4_init_14 : decode cX4_init 14 = .ok (.newarray .int, 2) := by decide +kernel
theorem dX4_init_16 : decode cX4_init 16 = .ok (.dup, 1) := by decide +kernel
theorem dX4_init_17 : decode cX4_init 17 = .ok (.iconst 0, 1) := by decide +kernel
theorem dX4_init_18 : decode cX4_init 18 = .ok (.iconst 2, 1) := by decide +kernel
theorem dX4_init_19 : decode cX4_init 19 = .ok (.iastore, 1) := by decide +kernel
theorem dX4_init_20 : decode cX4_init 20 = .ok (.dup, 1) := by decide +kernel
theorem dX4_init_21 : decode cX4_init 21 = .ok (.iconst 1, 1) := by decide +kernel
theorem dX4_init_22 : decode cX4_init 22 = .ok (.iconst 1, 1) := by decide +kernel
theorem dX4_init_23 : decode cX4_init 23 = .ok (.iastore, 1) := by decide +kernel
theorem dX4_init_24 : decode cX4_init 24 = .ok (.putfield 17, 3) := by decide +kernel
theorem dX4_init_27 : decode cX4_init 27 = .ok (.aload_n 0, 1) := by decide +kernel
theorem dX4_init_28 : decode cX4_init 28 = .ok (.iconst 0, 1) := by decide +kernel
theorem dX4_init_29 : decode cX4_init 29 = .ok (.putfield 21, 3) := by decide +kernel
theorem dX4_init_32 : decode cX4_init 32 = .ok (.aload_n 0, 1) := by decide +kernel
theorem dX4_init_33 : decode cX4_init 33 = .ok (.iconst 4, 1) := by decide +kernel
theorem dX4_init_34 : decode cX4_init 34 = .ok (.putfield 25, 3) := by decide +kernel
theorem dX4_init_37 : decode cX4_init 37 = .ok (.aload_n 0, 1) := by decide +kernel
theorem dX4_init_38 : decode cX4_init 38 = .ok (.iconst 5, 1) := by decide +kernel
theorem dX4_init_39 : decode cX4_init 39 = .ok (.newarray .int, 2) := by decide +kernel
theorem dX4_init_41 : decode cX4_init 41 = .ok (.putfield 28, 3) := by decide +kernel
theorem dX4_init_44 : decode cX4_init 44 = .ok (.iconst 0, 1) := by decide +kernel
theorem dX4_init_45 : decode cX4_init 45 = .ok (.istore_n 1, 1) := by decide +kernel
theorem dX4_init_46 : decode cX4_init 46 = .ok (.iload_n 1, 1) := by decide +kernel
theorem dX4_init_47 : decode cX4_init 47 = .ok (.iconst 5, 1) := by decide +kernel
theorem dX4_init_48 : decode cX4_init 48 = .ok (.if_icmp .ge 22, 3) := by decide +kernel
theorem dX4_init_51 : decode cX4_init 51 = .ok (.aload_n 0, 1) := by decide +kernel
theorem dX4_init_52 : decode cX4_init 52 = .ok (.getfield 11, 3) := by decide +kernel
theorem dX4_init_55 : decode cX4_init 55 = .ok (.iload_n 1, 1) := by decide +kernel
theorem dX4_init_56 : decode cX4_init 56 = .ok (.new 9, 3) := by decide +kernel
theorem dX4_init_59 : decode cX4_init 59 = .ok (.dup, 1) := by decide +kernel
theorem dX4_init_60 : decode cX4_init 60 = .ok (.invokespecial 31, 3) := by decide +kernel
theorem dX4_init_63 : decode cX4_init 63 = .ok (.aastore, 1) := by decide +kernel
theorem dX4_init_64 : decode cX4_init 64 = .ok (.iinc 1 1, 3) := by decide +kernel
theorem dX4_init_67 : decode cX4_init 67 = .ok (.goto (-21), 3) := by decide +kernel
theorem dX4_init_70 : decode cX4_init 70 = .ok (.return_, 1) := by decide +kernel
theorem dX4_copyFrom_0 : decode cX4_copyFrom 0 = .ok (.iconst 0, 1) := by decide +kernel
theorem dX4_copyFrom_1 : decode cX4_copyFrom 1 = .ok (.istore_n 2, 1) := by decide +kernel
theorem dX4_copyFrom_2 : decode cX4_copyFrom 2 = .ok (.iload_n 2, 1) := by decide +kernel
theorem dX4_copyFrom_3 : decode cX4_copyFrom 3 = .ok (.iconst 5, 1) := by decide +kernel
theorem dX4_copyFrom_4 : decode cX4_copyFrom 4 = .ok (.if_icmp .ge 24, 3) := by decide +kernel
theorem dX4_copyFrom_7 : decode cX4_copyFrom 7 = .ok (.aload_n 0, 1) := by decide +kernel
theorem dX4_copyFrom_8 : decode cX4_copyFrom 8 = .ok (.getfield 11, 3) := by decide +kernel
theorem dX4_copyFrom_11 : decode cX4_copyFrom 11 = .ok (.iload_n 2, 1) := by decide +kernel
theorem dX4_copyFrom_12 : decode cX4_copyFrom 12 = .ok (.aaload, 1) := by decide +kernel
theorem dX4_copyFrom_13 : decode cX4_copyFrom 13 = .ok (.aload_n 1, 1) := by decide +kernel
theorem dX4_copyFrom_14 : decode cX4_copyFrom 14 = .ok (.getfield 11, 3) := by decide +kernel
theorem dX4_copyFrom_17 : decode cX4_copyFrom 17 = .ok (.iload_n 2, 1) := by decide +kernel
theorem dX4_copyFrom_18 : decode cX4_copyFrom 18 = .ok (.aaload, 1) := by decide +kernel
theorem dX4_copyFrom_19 : decode cX4_copyFrom 19 = .ok (.invokevirtual 32, 3) := by decide +kernel
theorem dX4_copyFrom_22 : decode cX4_copyFrom 22 = .ok (.iinc 2 1, 3) := by decide +kernel
theorem dX4_copyFrom_25 : decode cX4_copyFrom 25 = .ok (.goto (-23), 3) := by decide +kernel
theorem dX4_copyFrom_28 : decode cX4_copyFrom 28 = .ok (.aload_n 0, 1) := by decide +kernel
theorem dX4_copyFrom_29 : decode cX4_copyFrom 29 = .ok (.getfield 17, 3) := by decide +kernel
theorem dX4_copyFrom_32 : decode cX4_copyFrom 32 = .ok (.iconst 0, 1) := by decide +kernel
theorem dX4_copyFrom_33 : decode cX4_copyFrom 33 = .ok (.aload_n 1, 1) := by decide +kernel
theorem dX4_copyFrom_34 : decode cX4_copyFrom 34 = .ok (.getfield 17, 3) := by decide +kernel
theorem dX4_copyFrom_37 : decode cX4_copyFrom 37 = .ok (.iconst 0, 1) := by decide +kernel
theorem dX4_copyFrom_38 : decode cX4_copyFrom 38 = .ok (.iaload, 1) := by decide +kernel
theorem dX4_copyFrom_39 : decode cX4_copyFrom 39 = .ok (.iastore, 1) := by decide +kernel
theorem dX4_copyFrom_40 : decode cX4_copyFrom 40 = .ok (.aload_n 0, 1) := by decide +kernel
theorem dX4_copyFrom_41 : decode cX4_copyFrom 41 = .ok (.getfield 17, 3) := by decide +kernel
theorem dX4_copyFrom_44 : decode cX4_copyFrom 44 = .ok (.iconst 1, 1) := by decide +kernel
theorem dX4_copyFrom_45 : decode cX4_copyFrom 45 = .ok (.aload_n 1, 1) := by decide +kernel
theorem dX4_copyFrom_46 : decode cX4_copyFrom 46 = .ok (.getfield 17, 3) := by decide +kernel
theorem dX4_copyFrom_49 : decode cX4_copyFrom 49 = .ok (.iconst 1, 1) := by decide +kernel
theorem dX4_copyFrom_50 : decode cX4_copyFrom 50 = .ok (.iaload, 1) := by decide +kernel
theorem dX4_copyFrom_51 : decode cX4_copyFrom 51 = .ok (.iastore, 1) := by decide +kernel
theorem dX4_copyFrom_52 : decode cX4_copyFrom 52 = .ok (.aload_n 0, 1) := by decide +kernel
theorem dX4_copyFrom_53 : decode cX4_copyFrom 53 = .ok (.aload_n 1, 1) := by decide +kernel
theorem dX4_copyFrom_54 : decode cX4_copyFrom 54 = .ok (.getfield 21, 3) := by decide +kernel
theorem dX4_copyFrom_57 : decode cX4_copyFrom 57 = .ok (.putfield 21, 3) := by decide +kernel
theorem dX4_copyFrom_60 : decode cX4_copyFrom 60 = .ok (.aload_n 0, 1) := by decide +kernel
theorem dX4_copyFrom_61 : decode cX4_copyFrom 61 = .ok (.aload_n 1, 1) := by decide +kernel
theorem dX4_copyFrom_62 : decode cX4_copyFrom 62 = .ok (.getfield 25, 3) := by decide +kernel
theorem dX4_copyFrom_65 : decode cX4_copyFrom 65 = .ok (.putfield 25, 3) := by decide +kernel
theorem dX4_copyFrom_68 : decode cX4_copyFrom 68 = .ok (.return_, 1) := by decide +kernel
theorem dX4_isStackEmpty_0 : decode cX4_isStackEmpty 0 = .ok (.aload_n 0, 1) := by decide +kernel
theorem dX4_isStackEmpty_1 : decode cX4_isStackEmpty 1 = .ok (.getfield 21, 3) := by decide +kernel
theorem dX4_isStackEmpty_4 : decode cX4_isStackEmpty 4 = .ok (.aload_n 0, 1) := by decide +kernel
theorem dX4_isStackEmpty_5 : decode cX4_isStackEmpty 5 = .ok (.getfield 25, 3) := by decide +kernel
theorem dX4_isStackEmpty_8 : decode cX4_isStackEmpty 8 = .ok (.if_icmp .le 7, 3) := by decide +kernel
theorem dX4_isStackEmpty_11 : decode cX4_isStackEmpty 11 = .ok (.iconst 1, 1) := by decide +kernel
theorem dX4_isStackEmpty_12 : decode cX4_isStackEmpty 12 = .ok (.goto 4, 3) := by decide +kernel
theorem dX4_isStackEmpty_15 : decode cX4_isStackEmpty 15 = .ok (.iconst 0, 1) := by decide +kernel
theorem dX4_isStackEmpty_16 : decode cX4_isStackEmpty 16 = .ok (.ireturn, 1) := by decide +kernel
theorem dX4_isInStack_0 : decode cX4_isInStack 0 = .ok (.iload_n 1, 1) := by decide +kernel
theorem dX4_isInStack_1 : decode cX4_isInStack 1 = .ok (.aload_n 0, 1) := by decide +kernel
theorem dX4_isInStack_2 : decode cX4_isInStack 2 = .ok (.getfield 21, 3) := by decide +kernel
theorem dX4_isInStack_5 : decode cX4_isInStack 5 = .ok (.if_icmp .lt 15, 3) := by decide +kernel
theorem dX4_isInStack_8 : decode cX4_isInStack 8 = .ok (.iload_n 1, 1) := by decide +kernel
theorem dX4_isInStack_9 : decode cX4_isInStack 9 = .ok (.aload_n 0, 1) := by decide +kernel
theorem dX4_isInStack_10 : decode cX4_isInStack 10 = .ok (.getfield 25, 3) := by decide +kernel
theorem dX4_isInStack_13 : decode cX4_isInStack 13 = .ok (.if_icmp .gt 7, 3) := by decide +kernel
theorem dX4_isInStack_16 : decode cX4_isInStack 16 = .ok (.iconst 1, 1) := by decide +kernel
theorem dX4_isInStack_17 : decode cX4_isInStack 17 = .ok (.goto 4, 3) := by decide +kernel
theorem dX4_isInStack_20 : decode cX4_isInStack 20 = .ok (.iconst 0, 1) := by decide +kernel
theorem dX4_isInStack_21 : decode cX4_isInStack 21 = .ok (.ireturn, 1) := by decide +kernel
theorem dX4_stack_0 : decode cX4_stack 0 = .ok (.iconst 0, 1) := by decide +kernel
theorem dX4_stack_1 : decode cX4_stack 1 = .ok (.istore_n 1, 1) := by decide +kernel
theorem dX4_stack_2 : decode cX4_stack 2 = .ok (.iconst 0, 1) := by decide +kernel
theorem dX4_stack_3 : decode cX4_stack 3 = .ok (.istore_n 2, 1) := by decide +kernel
theorem dX4_stack_4 : decode cX4_stack 4 = .ok (.iload_n 2, 1) := by decide +kernel
theorem dX4_stack_5 : decode cX4_stack 5 = .ok (.iconst 5, 1) := by decide +kernel
theorem dX4_stack_6 : decode cX4_stack 6 = .ok (.if_icmp .ge 23, 3) := by decide +kernel
theorem dX4_stack_9 : decode cX4_stack 9 = .ok (.aload_n 0, 1) := by decide +kernel
theorem dX4_stack_10 : decode cX4_stack 10 = .ok (.iload_n 2, 1) := by decide +kernel
theorem dX4_stack_11 : decode cX4_stack 11 = .ok (.invokevirtual 36, 3) := by decide +kernel
theorem dX4_stack_14 : decode cX4_stack 14 = .ok (.ifCond .eq 9, 3) := by decide +kernel
theorem dX4_stack_17 : decode cX4_stack 17 = .ok (.iload_n 1, 1) := by decide +kernel
theorem dX4_stack_18 : decode cX4_stack 18 = .ok (.iconst 1, 1) := by decide +kernel
theorem dX4_stack_19 : decode cX4_stack 19 = .ok (.iload_n 2, 1) := by decide +kernel
theorem dX4_stack_20 : decode cX4_stack 20 = .ok (.ishl, 1) := by decide +kernel
theorem dX4_stack_21 : decode cX4_stack 21 = .ok (.ior, 1) := by decide +kernel
theorem dX4_stack_22 : decode cX4_stack 22 = .ok (.istore_n 1, 1) := by decide +kernel
theorem dX4_stack_23 : decode cX4_stack 23 = .ok (.iinc 2 1, 3) := by decide +kernel
theorem dX4_stack_26 : decode cX4_stack 26 = .ok (.goto (-22), 3) := by decide +kernel
theorem dX4_stack_29 : decode cX4_stack 29 = .ok (.iload_n 1, 1) := by decide +kernel
theorem dX4_stack_30 : decode cX4_stack 30 = .ok (.ireturn, 1) := by decide +kernel
theorem dX4_noteIfApart_0 : decode cX4_noteIfApart 0 = .ok (.aload_n 0, 1) := by decide +kernel
theorem dX4_noteIfApart_1 : decode cX4_noteIfApart 1 = .ok (.iload_n 1, 1) := by decide +kernel
theorem dX4_noteIfApart_2 : decode cX4_noteIfApart 2 = .ok (.invokevirtual 36, 3) := by decide +kernel
theorem dX4_noteIfApart_5 : decode cX4_noteIfApart 5 = .ok (.ifCond .ne 20, 3) := by decide +kernel
theorem dX4_noteIfApart_8 : decode cX4_noteIfApart 8 = .ok (.aload_n 0, 1) := by decide +kernel
theorem dX4_noteIfApart_9 : decode cX4_noteIfApart 9 = .ok (.getfield 11, 3) := by decide +kernel
theorem dX4_noteIfApart_12 : decode cX4_noteIfApart 12 = .ok (.iload_n 1, 1) := by decide +kernel
theorem dX4_noteIfApart_13 : decode cX4_noteIfApart 13 = .ok (.aaload, 1) := by decide +kernel
theorem dX4_noteIfApart_14 : decode cX4_noteIfApart 14 = .ok (.dup, 1) := by decide +kernel
theorem dX4_noteIfApart_15 : decode cX4_noteIfApart 15 = .ok (.getfield 40, 3) := by decide +kernel
theorem dX4_noteIfApart_18 : decode cX4_noteIfApart 18 = .ok (.iconst 1, 1) := by decide +kernel
theorem dX4_noteIfApart_19 : decode cX4_noteIfApart 19 = .ok (.iload_n 2, 1) := by decide +kernel
theorem dX4_noteIfApart_20 : decode cX4_noteIfApart 20 = .ok (.ishl, 1) := by decide +kernel
theorem dX4_noteIfApart_21 : decode cX4_noteIfApart 21 = .ok (.ior, 1) := by decide +kernel
theorem dX4_noteIfApart_22 : decode cX4_noteIfApart 22 = .ok (.putfield 40, 3) := by decide +kernel
theorem dX4_noteIfApart_25 : decode cX4_noteIfApart 25 = .ok (.return_, 1) := by decide +kernel
theorem dX4_measure_0 : decode cX4_measure 0 = .ok (.iload_n 1, 1) := by decide +kernel
theorem dX4_measure_1 : decode cX4_measure 1 = .ok (.istore_n 2, 1) := by decide +kernel
theorem dX4_measure_2 : decode cX4_measure 2 = .ok (.iconst 0, 1) := by decide +kernel
theorem dX4_measure_3 : decode cX4_measure 3 = .ok (.istore_n 3, 1) := by decide +kernel
theorem dX4_measure_4 : decode cX4_measure 4 = .ok (.iload_n 3, 1) := by decide +kernel
theorem dX4_measure_5 : decode cX4_measure 5 = .ok (.iconst 5, 1) := by decide +kernel
theorem dX4_measure_6 : decode cX4_measure 6 = .ok (.if_icmp .ge 75, 3) := by decide +kernel
theorem dX4_measure_9 : decode cX4_measure 9 = .ok (.aload_n 0, 1) := by decide +kernel
theorem dX4_measure_10 : decode cX4_measure 10 = .ok (.getfield 28, 3) := by decide +kernel
theorem dX4_measure_13 : decode cX4_measure 13 = .ok (.iload_n 3, 1) := by decide +kernel
theorem dX4_measure_14 : decode cX4_measure 14 = .ok (.iconst 0, 1) := by decide +kernel
theorem dX4_measure_15 : decode cX4_measure 15 = .ok (.iastore, 1) := by decide +kernel
theorem dX4_measure_16 : decode cX4_measure 16 = .ok (.aload_n 0, 1) := by decide +kernel
theorem dX4_measure_17 : decode cX4_measure 17 = .ok (.iload_n 3, 1) := by decide +kernel
theorem dX4_measure_18 : decode cX4_measure 18 = .ok (.invokevirtual 36, 3) := by decide +kernel
theorem dX4_measure_21 : decode cX4_measure 21 = .ok (.ifCond .eq 54, 3) := by decide +kernel
theorem dX4_measure_24 : decode cX4_measure 24 = .ok (.aload_n 0, 1) := by decide +kernel
theorem dX4_measure_25 : decode cX4_measure 25 = .ok (.getfield 28, 3) := by decide +kernel
theorem dX4_measure_28 : decode cX4_measure 28 = .ok (.iload_n 3, 1) := by decide +kernel
theorem dX4_measure_29 : decode cX4_measure 29 = .ok (.iload_n 2, 1) := by decide +kernel
theorem dX4_measure_30 : decode cX4_measure 30 = .ok (.iastore, 1) := by decide +kernel
theorem dX4_measure_31 : decode cX4_measure 31 = .ok (.aload_n 0, 1) := by decide +kernel
theorem dX4_measure_32 : decode cX4_measure 32 = .ok (.getfield 11, 3) := by decide +kernel
theorem dX4_measure_35 : decode cX4_measure 35 = .ok (.iload_n 3, 1) := by decide +kernel
theorem dX4_measure_36 : decode cX4_measure 36 = .ok (.aaload, 1) := by decide +kernel
theorem dX4_measure_37 : decode cX4_measure 37 = .ok (.getfield 43, 3) := by decide +kernel
theorem dX4_measure_40 : decode cX4_measure 40 = .ok (.ifCond .le 7, 3) := by decide +kernel
theorem dX4_measure_43 : decode cX4_measure 43 = .ok (.iconst 1, 1) := by decide +kernel
theorem dX4_measure_44 : decode cX4_measure 44 = .ok (.goto 4, 3) := by decide +kernel
theorem dX4_measure_47 : decode cX4_measure 47 = .ok (.iconst 0, 1) := by decide +kernel
theorem dX4_measure_48 : decode cX4_measure 48 = .ok (.istore 4, 2) := by decide +kernel
theorem dX4_measure_50 : decode cX4_measure 50 = .ok (.iload 4, 2) := by decide +kernel
theorem dX4_measure_52 : decode cX4_measure 52 = .ok (.ifCond .eq 21, 3) := by decide +kernel
theorem dX4_measure_55 : decode cX4_measure 55 = .ok (.iconst 0, 1) := by decide +kernel
theorem dX4_measure_56 : decode cX4_measure 56 = .ok (.iload_n 2, 1) := by decide +kernel
theorem dX4_measure_57 : decode cX4_measure 57 = .ok (.aload_n 0, 1) := by decide +kernel
theorem dX4_measure_58 : decode cX4_measure 58 = .ok (.getfield 11, 3) := by decide +kernel
theorem dX4_measure_61 : decode cX4_measure 61 = .ok (.iload_n 3, 1) := by decide +kernel
theorem dX4_measure_62 : decode cX4_measure 62 = .ok (.aaload, 1) := by decide +kernel
theorem dX4_measure_63 : decode cX4_measure 63 = .ok (.getfield 46, 3) := by decide +kernel
theorem dX4_measure_66 : decode cX4_measure 66 = .ok (.isub, 1) := by decide +kernel
theorem dX4_measure_67 : decode cX4_measure 67 = .ok (.invokestatic 49, 3) := by decide +kernel
theorem dX4_measure_70 : decode cX4_measure 70 = .ok (.goto 4, 3) := by decide +kernel
theorem dX4_measure_73 : decode cX4_measure 73 = .ok (.iconst 0, 1) := by decide +kernel
theorem dX4_measure_74 : decode cX4_measure 74 = .ok (.istore_n 2, 1) := by decide +kernel
theorem dX4_measure_75 : decode cX4_measure 75 = .ok (.iinc 3 1, 3) := by decide +kernel
theorem dX4_measure_78 : decode cX4_measure 78 = .ok (.goto (-74), 3) := by decide +kernel
theorem dX4_measure_81 : decode cX4_measure 81 = .ok (.return_, 1) := by decide +kernel
theorem dX4_wearCarbons_0 : decode cX4_wearCarbons 0 = .ok (.iconst 0, 1) := by decide +kernel
theorem dX4_wearCarbons_1 : decode cX4_wearCarbons 1 = .ok (.istore_n 1, 1) := by decide +kernel
theorem dX4_wearCarbons_2 : decode cX4_wearCarbons 2 = .ok (.iload_n 1, 1) := by decide +kernel
theorem dX4_wearCarbons_3 : decode cX4_wearCarbons 3 = .ok (.iconst 4, 1) := by decide +kernel
theorem dX4_wearCarbons_4 : decode cX4_wearCarbons 4 = .ok (.if_icmp .ge 44, 3) := by decide +kernel
theorem dX4_wearCarbons_7 : decode cX4_wearCarbons 7 = .ok (.aload_n 0, 1) := by decide +kernel
theorem dX4_wearCarbons_8 : decode cX4_wearCarbons 8 = .ok (.getfield 28, 3) := by decide +kernel
theorem dX4_wearCarbons_11 : decode cX4_wearCarbons 11 = .ok (.iload_n 1, 1) := by decide +kernel
theorem dX4_wearCarbons_12 : decode cX4_wearCarbons 12 = .ok (.iaload, 1) := by decide +kernel
theorem dX4_wearCarbons_13 : decode cX4_wearCarbons 13 = .ok (.ifCond .le 29, 3) := by decide +kernel
theorem dX4_wearCarbons_16 : decode cX4_wearCarbons 16 = .ok (.aload_n 0, 1) := by decide +kernel
theorem dX4_wearCarbons_17 : decode cX4_wearCarbons 17 = .ok (.getfield 28, 3) := by decide +kernel
theorem dX4_wearCarbons_20 : decode cX4_wearCarbons 20 = .ok (.iload_n 1, 1) := by decide +kernel
theorem dX4_wearCarbons_21 : decode cX4_wearCarbons 21 = .ok (.iconst 1, 1) := by decide +kernel
theorem dX4_wearCarbons_22 : decode cX4_wearCarbons 22 = .ok (.iadd, 1) := by decide +kernel
theorem dX4_wearCarbons_23 : decode cX4_wearCarbons 23 = .ok (.iaload, 1) := by decide +kernel
theorem dX4_wearCarbons_24 : decode cX4_wearCarbons 24 = .ok (.ifCond .le 18, 3) := by decide +kernel
theorem dX4_wearCarbons_27 : decode cX4_wearCarbons 27 = .ok (.aload_n 0, 1) := by decide +kernel
theorem dX4_wearCarbons_28 : decode cX4_wearCarbons 28 = .ok (.getfield 11, 3) := by decide +kernel
theorem dX4_wearCarbons_31 : decode cX4_wearCarbons 31 = .ok (.iload_n 1, 1) := by decide +kernel
theorem dX4_wearCarbons_32 : decode cX4_wearCarbons 32 = .ok (.aaload, 1) := by decide +kernel
theorem dX4_wearCarbons_33 : decode cX4_wearCarbons 33 = .ok (.dup, 1) := by decide +kernel
theorem dX4_wearCarbons_34 : decode cX4_wearCarbons 34 = .ok (.getfield 43, 3) := by decide +kernel
theorem dX4_wearCarbons_37 : decode cX4_wearCarbons 37 = .ok (.iconst 1, 1) := by decide +kernel
theorem dX4_wearCarbons_38 : decode cX4_wearCarbons 38 = .ok (.isub, 1) := by decide +kernel
theorem dX4_wearCarbons_39 : decode cX4_wearCarbons 39 = .ok (.putfield 43, 3) := by decide +kernel
theorem dX4_wearCarbons_42 : decode cX4_wearCarbons 42 = .ok (.iinc 1 1, 3) := by decide +kernel
theorem dX4_wearCarbons_45 : decode cX4_wearCarbons 45 = .ok (.goto (-43), 3) := by decide +kernel
theorem dX4_wearCarbons_48 : decode cX4_wearCarbons 48 = .ok (.return_, 1) := by decide +kernel
theorem dX4_refusalToWrite_0 : decode cX4_refusalToWrite 0 = .ok (.iload_n 1, 1) := by decide +kernel
theorem dX4_refusalToWrite_1 : decode cX4_refusalToWrite 1 = .ok (.invokestatic 55, 3) := by decide +kernel
theorem dX4_refusalToWrite_4 : decode cX4_refusalToWrite 4 = .ok (.ifCond .ne 5, 3) := by decide +kernel
theorem dX4_refusalToWrite_7 : decode cX4_refusalToWrite 7 = .ok (.iconst (-1), 1) := by decide +kernel
theorem dX4_refusalToWrite_8 : decode cX4_refusalToWrite 8 = .ok (.ireturn, 1) := by decide +kernel
theorem dX4_refusalToWrite_9 : decode cX4_refusalToWrite 9 = .ok (.iload_n 2, 1) := by decide +kernel
theorem dX4_refusalToWrite_10 : decode cX4_refusalToWrite 10 = .ok (.invokestatic 58, 3) := by decide +kernel
theorem dX4_refusalToWrite_13 : decode cX4_refusalToWrite 13 = .ok (.ifCond .eq 10, 3) := by decide +kernel
theorem dX4_refusalToWrite_16 : decode cX4_refusalToWrite 16 = .ok (.iload_n 3, 1) := by decide +kernel
theorem dX4_refusalToWrite_17 : decode cX4_refusalToWrite 17 = .ok (.invokestatic 61, 3) := by decide +kernel
theorem dX4_refusalToWrite_20 : decode cX4_refusalToWrite 20 = .ok (.ifCond .ne 6, 3) := by decide +kernel
theorem dX4_refusalToWrite_23 : decode cX4_refusalToWrite 23 = .ok (.bipush (-2), 2) := by decide +kernel
theorem dX4_refusalToWrite_25 : decode cX4_refusalToWrite 25 = .ok (.ireturn, 1) := by decide +kernel
theorem dX4_refusalToWrite_26 : decode cX4_refusalToWrite 26 = .ok (.aload_n 0, 1) := by decide +kernel
theorem dX4_refusalToWrite_27 : decode cX4_refusalToWrite 27 = .ok (.invokevirtual 64, 3) := by decide +kernel
theorem dX4_refusalToWrite_30 : decode cX4_refusalToWrite 30 = .ok (.ifCond .eq 6, 3) := by decide +kernel
theorem dX4_refusalToWrite_33 : decode cX4_refusalToWrite 33 = .ok (.bipush (-5), 2) := by decide +kernel
theorem dX4_refusalToWrite_35 : decode cX4_refusalToWrite 35 = .ok (.ireturn, 1) := by decide +kernel
theorem dX4_refusalToWrite_36 : decode cX4_refusalToWrite 36 = .ok (.aload_n 0, 1) := by decide +kernel
theorem dX4_refusalToWrite_37 : decode cX4_refusalToWrite 37 = .ok (.iload_n 3, 1) := by decide +kernel
theorem dX4_refusalToWrite_38 : decode cX4_refusalToWrite 38 = .ok (.invokevirtual 68, 3) := by decide +kernel
theorem dX4_refusalToWrite_41 : decode cX4_refusalToWrite 41 = .ok (.iconst 0, 1) := by decide +kernel
theorem dX4_refusalToWrite_42 : decode cX4_refusalToWrite 42 = .ok (.istore 4, 2) := by decide +kernel
theorem dX4_refusalToWrite_44 : decode cX4_refusalToWrite 44 = .ok (.iload 4, 2) := by decide +kernel
theorem dX4_refusalToWrite_46 : decode cX4_refusalToWrite 46 = .ok (.iconst 5, 1) := by decide +kernel
theorem dX4_refusalToWrite_47 : decode cX4_refusalToWrite 47 = .ok (.if_icmp .ge 36, 3) := by decide +kernel
theorem dX4_refusalToWrite_50 : decode cX4_refusalToWrite 50 = .ok (.aload_n 0, 1) := by decide +kernel
theorem dX4_refusalToWrite_51 : decode cX4_refusalToWrite 51 = .ok (.getfield 28, 3) := by decide +kernel
theorem dX4_refusalToWrite_54 : decode cX4_refusalToWrite 54 = .ok (.iload 4, 2) := by decide +kernel
theorem dX4_refusalToWrite_56 : decode cX4_refusalToWrite 56 = .ok (.iaload, 1) := by decide +kernel
theorem dX4_refusalToWrite_57 : decode cX4_refusalToWrite 57 = .ok (.ifCond .le 20, 3) := by decide +kernel
theorem dX4_refusalToWrite_60 : decode cX4_refusalToWrite 60 = .ok (.aload_n 0, 1) := by decide +kernel
theorem dX4_refusalToWrite_61 : decode cX4_refusalToWrite 61 = .ok (.getfield 11, 3) := by decide +kernel
theorem dX4_refusalToWrite_64 : decode cX4_refusalToWrite 64 = .ok (.iload 4, 2) := by decide +kernel
theorem dX4_refusalToWrite_66 : decode cX4_refusalToWrite 66 = .ok (.aaload, 1) := by decide +kernel
theorem dX4_refusalToWrite_67 : decode cX4_refusalToWrite 67 = .ok (.iload_n 1, 1) := by decide +kernel
theorem dX4_refusalToWrite_68 : decode cX4_refusalToWrite 68 = .ok (.invokevirtual 72, 3) := by decide +kernel
theorem dX4_refusalToWrite_71 : decode cX4_refusalToWrite 71 = .ok (.ifCond .ne 6, 3) := by decide +kernel
theorem dX4_refusalToWrite_74 : decode cX4_refusalToWrite 74 = .ok (.bipush (-4), 2) := by decide +kernel
theorem dX4_refusalToWrite_76 : decode cX4_refusalToWrite 76 = .ok (.ireturn, 1) := by decide +kernel
theorem dX4_refusalToWrite_77 : decode cX4_refusalToWrite 77 = .ok (.iinc 4 1, 3) := by decide +kernel
theorem dX4_refusalToWrite_80 : decode cX4_refusalToWrite 80 = .ok (.goto (-36), 3) := by decide +kernel
theorem dX4_refusalToWrite_83 : decode cX4_refusalToWrite 83 = .ok (.iconst 0, 1) := by decide +kernel
theorem dX4_refusalToWrite_84 : decode cX4_refusalToWrite 84 = .ok (.ireturn, 1) := by decide +kernel
theorem dX4_pressValue_0 : decode cX4_pressValue 0 = .ok (.iconst 0, 1) := by decide +kernel
theorem dX4_pressValue_1 : decode cX4_pressValue 1 = .ok (.istore 4, 2) := by decide +kernel
theorem dX4_pressValue_3 : decode cX4_pressValue 3 = .ok (.aload_n 0, 1) := by decide +kernel
theorem dX4_pressValue_4 : decode cX4_pressValue 4 = .ok (.iload_n 3, 1) := by decide +kernel
theorem dX4_pressValue_5 : decode cX4_pressValue 5 = .ok (.invokevirtual 68, 3) := by decide +kernel
theorem dX4_pressValue_8 : decode cX4_pressValue 8 = .ok (.iconst 0, 1) := by decide +kernel
theorem dX4_pressValue_9 : decode cX4_pressValue 9 = .ok (.istore 5, 2) := by decide +kernel
theorem dX4_pressValue_11 : decode cX4_pressValue 11 = .ok (.iload 5, 2) := by decide +kernel
theorem dX4_pressValue_13 : decode cX4_pressValue 13 = .ok (.iconst 5, 1) := by decide +kernel
theorem dX4_pressValue_14 : decode cX4_pressValue 14 = .ok (.if_icmp .ge 41, 3) := by decide +kernel
theorem dX4_pressValue_17 : decode cX4_pressValue 17 = .ok (.aload_n 0, 1) := by decide +kernel
theorem dX4_pressValue_18 : decode cX4_pressValue 18 = .ok (.getfield 28, 3) := by decide +kernel
theorem dX4_pressValue_21 : decode cX4_pressValue 21 = .ok (.iload 5, 2) := by decide +kernel
theorem dX4_pressValue_23 : decode cX4_pressValue 23 = .ok (.iaload, 1) := by decide +kernel
theorem dX4_pressValue_24 : decode cX4_pressValue 24 = .ok (.ifCond .le 25, 3) := by decide +kernel
theorem dX4_pressValue_27 : decode cX4_pressValue 27 = .ok (.aload_n 0, 1) := by decide +kernel
theorem dX4_pressValue_28 : decode cX4_pressValue 28 = .ok (.getfield 11, 3) := by decide +kernel
theorem dX4_pressValue_31 : decode cX4_pressValue 31 = .ok (.iload 5, 2) := by decide +kernel
theorem dX4_pressValue_33 : decode cX4_pressValue 33 = .ok (.aaload, 1) := by decide +kernel
theorem dX4_pressValue_34 : decode cX4_pressValue 34 = .ok (.iload_n 1, 1) := by decide +kernel
theorem dX4_pressValue_35 : decode cX4_pressValue 35 = .ok (.iload_n 2, 1) := by decide +kernel
theorem dX4_pressValue_36 : decode cX4_pressValue 36 = .ok (.aload_n 0, 1) := by decide +kernel
theorem dX4_pressValue_37 : decode cX4_pressValue 37 = .ok (.getfield 28, 3) := by decide +kernel
theorem dX4_pressValue_40 : decode cX4_pressValue 40 = .ok (.iload 5, 2) := by decide +kernel
theorem dX4_pressValue_42 : decode cX4_pressValue 42 = .ok (.iaload, 1) := by decide +kernel
theorem dX4_pressValue_43 : decode cX4_pressValue 43 = .ok (.invokevirtual 75, 3) := by decide +kernel
theorem dX4_pressValue_46 : decode cX4_pressValue 46 = .ok (.iinc 4 1, 3) := by decide +kernel
theorem dX4_pressValue_49 : decode cX4_pressValue 49 = .ok (.iinc 5 1, 3) := by decide +kernel
theorem dX4_pressValue_52 : decode cX4_pressValue 52 = .ok (.goto (-41), 3) := by decide +kernel
theorem dX4_pressValue_55 : decode cX4_pressValue 55 = .ok (.aload_n 0, 1) := by decide +kernel
theorem dX4_pressValue_56 : decode cX4_pressValue 56 = .ok (.invokevirtual 79, 3) := by decide +kernel
theorem dX4_pressValue_59 : decode cX4_pressValue 59 = .ok (.iload 4, 2) := by decide +kernel
theorem dX4_pressValue_61 : decode cX4_pressValue 61 = .ok (.ireturn, 1) := by decide +kernel
theorem dX4_refusalToStrike_0 : decode cX4_refusalToStrike 0 = .ok (.iload_n 1, 1) := by decide +kernel
theorem dX4_refusalToStrike_1 : decode cX4_refusalToStrike 1 = .ok (.invokestatic 55, 3) := by decide +kernel
theorem dX4_refusalToStrike_4 : decode cX4_refusalToStrike 4 = .ok (.ifCond .ne 5, 3) := by decide +kernel
theorem dX4_refusalToStrike_7 : decode cX4_refusalToStrike 7 = .ok (.iconst (-1), 1) := by decide +kernel
theorem dX4_refusalToStrike_8 : decode cX4_refusalToStrike 8 = .ok (.ireturn, 1) := by decide +kernel
theorem dX4_refusalToStrike_9 : decode cX4_refusalToStrike 9 = .ok (.iload_n 2, 1) := by decide +kernel
theorem dX4_refusalToStrike_10 : decode cX4_refusalToStrike 10 = .ok (.invokestatic 61, 3) := by decide +kernel
theorem dX4_refusalToStrike_13 : decode cX4_refusalToStrike 13 = .ok (.ifCond .ne 6, 3) := by decide +kernel
theorem dX4_refusalToStrike_16 : decode cX4_refusalToStrike 16 = .ok (.bipush (-2), 2) := by decide +kernel
theorem dX4_refusalToStrike_18 : decode cX4_refusalToStrike 18 = .ok (.ireturn, 1) := by decide +kernel
theorem dX4_refusalToStrike_19 : decode cX4_refusalToStrike 19 = .ok (.aload_n 0, 1) := by decide +kernel
theorem dX4_refusalToStrike_20 : decode cX4_refusalToStrike 20 = .ok (.invokevirtual 64, 3) := by decide +kernel
theorem dX4_refusalToStrike_23 : decode cX4_refusalToStrike 23 = .ok (.ifCond .eq 8, 3) := by decide +kernel
theorem dX4_refusalToStrike_26 : decode cX4_refusalToStrike 26 = .ok (.bipush (-5), 2) := by decide +kernel
theorem dX4_refusalToStrike_28 : decode cX4_refusalToStrike 28 = .ok (.goto 4, 3) := by decide +kernel
theorem dX4_refusalToStrike_31 : decode cX4_refusalToStrike 31 = .ok (.iconst 0, 1) := by decide +kernel
theorem dX4_refusalToStrike_32 : decode cX4_refusalToStrike 32 = .ok (.ireturn, 1) := by decide +kernel
theorem dX4_pressStroke_0 : decode cX4_pressStroke 0 = .ok (.iconst 0, 1) := by decide +kernel
theorem dX4_pressStroke_1 : decode cX4_pressStroke 1 = .ok (.istore_n 3, 1) := by decide +kernel
theorem dX4_pressStroke_2 : decode cX4_pressStroke 2 = .ok (.aload_n 0, 1) := by decide +kernel
theorem dX4_pressStroke_3 : decode cX4_pressStroke 3 = .ok (.iload_n 2, 1) := by decide +kernel
theorem dX4_pressStroke_4 : decode cX4_pressStroke 4 = .ok (.invokevirtual 68, 3) := by decide +kernel
theorem dX4_pressStroke_7 : decode cX4_pressStroke 7 = .ok (.iconst 0, 1) := by decide +kernel
theorem dX4_pressStroke_8 : decode cX4_pressStroke 8 = .ok (.istore 4, 2) := by decide +kernel
theorem dX4_pressStroke_10 : decode cX4_pressStroke 10 = .ok (.iload 4, 2) := by decide +kernel
theorem dX4_pressStroke_12 : decode cX4_pressStroke 12 = .ok (.iconst 5, 1) := by decide +kernel
theorem dX4_pressStroke_13 : decode cX4_pressStroke 13 = .ok (.if_icmp .ge 30, 3) := by decide +kernel
theorem dX4_pressStroke_16 : decode cX4_pressStroke 16 = .ok (.iload_n 3, 1) := by decide +kernel
theorem dX4_pressStroke_17 : decode cX4_pressStroke 17 = .ok (.aload_n 0, 1) := by decide +kernel
theorem dX4_pressStroke_18 : decode cX4_pressStroke 18 = .ok (.getfield 11, 3) := by decide +kernel
theorem dX4_pressStroke_21 : decode cX4_pressStroke 21 = .ok (.iload 4, 2) := by decide +kernel
theorem dX4_pressStroke_23 : decode cX4_pressStroke 23 = .ok (.aaload, 1) := by decide +kernel
theorem dX4_pressStroke_24 : decode cX4_pressStroke 24 = .ok (.iload_n 1, 1) := by decide +kernel
theorem dX4_pressStroke_25 : decode cX4_pressStroke 25 = .ok (.aload_n 0, 1) := by decide +kernel
theorem dX4_pressStroke_26 : decode cX4_pressStroke 26 = .ok (.getfield 28, 3) := by decide +kernel
theorem dX4_pressStroke_29 : decode cX4_pressStroke 29 = .ok (.iload 4, 2) := by decide +kernel
theorem dX4_pressStroke_31 : decode cX4_pressStroke 31 = .ok (.iaload, 1) := by decide +kernel
theorem dX4_pressStroke_32 : decode cX4_pressStroke 32 = .ok (.invokevirtual 82, 3) := by decide +kernel
theorem dX4_pressStroke_35 : decode cX4_pressStroke 35 = .ok (.iadd, 1) := by decide +kernel
theorem dX4_pressStroke_36 : decode cX4_pressStroke 36 = .ok (.istore_n 3, 1) := by decide +kernel
theorem dX4_pressStroke_37 : decode cX4_pressStroke 37 = .ok (.iinc 4 1, 3) := by decide +kernel
theorem dX4_pressStroke_40 : decode cX4_pressStroke 40 = .ok (.goto (-30), 3) := by decide +kernel
theorem dX4_pressStroke_43 : decode cX4_pressStroke 43 = .ok (.aload_n 0, 1) := by decide +kernel
theorem dX4_pressStroke_44 : decode cX4_pressStroke 44 = .ok (.invokevirtual 79, 3) := by decide +kernel
theorem dX4_pressStroke_47 : decode cX4_pressStroke 47 = .ok (.iload_n 3, 1) := by decide +kernel
theorem dX4_pressStroke_48 : decode cX4_pressStroke 48 = .ok (.ireturn, 1) := by decide +kernel
theorem dX4_refusalToTear_0 : decode cX4_refusalToTear 0 = .ok (.iload_n 1, 1) := by decide +kernel
theorem dX4_refusalToTear_1 : decode cX4_refusalToTear 1 = .ok (.ifCond .eq 11, 3) := by decide +kernel
theorem dX4_refusalToTear_4 : decode cX4_refusalToTear 4 = .ok (.iload_n 1, 1) := by decide +kernel
theorem dX4_refusalToTear_5 : decode cX4_refusalToTear 5 = .ok (.iconst 1, 1) := by decide +kernel
theorem dX4_refusalToTear_6 : decode cX4_refusalToTear 6 = .ok (.if_icmp .eq 6, 3) := by decide +kernel
theorem dX4_refusalToTear_9 : decode cX4_refusalToTear 9 = .ok (.bipush (-2), 2) := by decide +kernel
theorem dX4_refusalToTear_11 : decode cX4_refusalToTear 11 = .ok (.ireturn, 1) := by decide +kernel
theorem dX4_refusalToTear_12 : decode cX4_refusalToTear 12 = .ok (.aload_n 0, 1) := by decide +kernel
theorem dX4_refusalToTear_13 : decode cX4_refusalToTear 13 = .ok (.invokevirtual 64, 3) := by decide +kernel
theorem dX4_refusalToTear_16 : decode cX4_refusalToTear 16 = .ok (.ifCond .eq 8, 3) := by decide +kernel
theorem dX4_refusalToTear_19 : decode cX4_refusalToTear 19 = .ok (.bipush (-5), 2) := by decide +kernel
theorem dX4_refusalToTear_21 : decode cX4_refusalToTear 21 = .ok (.goto 4, 3) := by decide +kernel
theorem dX4_refusalToTear_24 : decode cX4_refusalToTear 24 = .ok (.iconst 0, 1) := by decide +kernel
theorem dX4_refusalToTear_25 : decode cX4_refusalToTear 25 = .ok (.ireturn, 1) := by decide +kernel
theorem dX4_tearOff_0 : decode cX4_tearOff 0 = .ok (.iload_n 1, 1) := by decide +kernel
theorem dX4_tearOff_1 : decode cX4_tearOff 1 = .ok (.ifCond .ne 20, 3) := by decide +kernel
theorem dX4_tearOff_4 : decode cX4_tearOff 4 = .ok (.aload_n 0, 1) := by decide +kernel
theorem dX4_tearOff_5 : decode cX4_tearOff 5 = .ok (.dup, 1) := by decide +kernel
theorem dX4_tearOff_6 : decode cX4_tearOff 6 = .ok (.getfield 21, 3) := by decide +kernel
theorem dX4_tearOff_9 : decode cX4_tearOff 9 = .ok (.iconst 1, 1) := by decide +kernel
theorem dX4_tearOff_10 : decode cX4_tearOff 10 = .ok (.iadd, 1) := by decide +kernel
theorem dX4_tearOff_11 : decode cX4_tearOff 11 = .ok (.putfield 21, 3) := by decide +kernel
theorem dX4_tearOff_14 : decode cX4_tearOff 14 = .ok (.aload_n 0, 1) := by decide +kernel
theorem dX4_tearOff_15 : decode cX4_tearOff 15 = .ok (.getfield 21, 3) := by decide +kernel
theorem dX4_tearOff_18 : decode cX4_tearOff 18 = .ok (.iconst 1, 1) := by decide +kernel
theorem dX4_tearOff_19 : decode cX4_tearOff 19 = .ok (.isub, 1) := by decide +kernel
theorem dX4_tearOff_20 : decode cX4_tearOff 20 = .ok (.ireturn, 1) := by decide +kernel
theorem dX4_tearOff_21 : decode cX4_tearOff 21 = .ok (.aload_n 0, 1) := by decide +kernel
theorem dX4_tearOff_22 : decode cX4_tearOff 22 = .ok (.dup, 1) := by decide +kernel
theorem dX4_tearOff_23 : decode cX4_tearOff 23 = .ok (.getfield 25, 3) := by decide +kernel
theorem dX4_tearOff_26 : decode cX4_tearOff 26 = .ok (.iconst 1, 1) := by decide +kernel
theorem dX4_tearOff_27 : decode cX4_tearOff 27 = .ok (.isub, 1) := by decide +kernel
theorem dX4_tearOff_28 : decode cX4_tearOff 28 = .ok (.putfield 25, 3) := by decide +kernel
theorem dX4_tearOff_31 : decode cX4_tearOff 31 = .ok (.aload_n 0, 1) := by decide +kernel
theorem dX4_tearOff_32 : decode cX4_tearOff 32 = .ok (.getfield 25, 3) := by decide +kernel
theorem dX4_tearOff_35 : decode cX4_tearOff 35 = .ok (.iconst 1, 1) := by decide +kernel
theorem dX4_tearOff_36 : decode cX4_tearOff 36 = .ok (.iadd, 1) := by decide +kernel
theorem dX4_tearOff_37 : decode cX4_tearOff 37 = .ok (.ireturn, 1) := by decide +kernel
theorem dX4_kindOf_0 : decode cX4_kindOf 0 = .ok (.aload_n 0, 1) := by decide +kernel
theorem dX4_kindOf_1 : decode cX4_kindOf 1 = .ok (.getfield 11, 3) := by decide +kernel
theorem dX4_kindOf_4 : decode cX4_kindOf 4 = .ok (.iload_n 1, 1) := by decide +kernel
theorem dX4_kindOf_5 : decode cX4_kindOf 5 = .ok (.aaload, 1) := by decide +kernel
theorem dX4_kindOf_6 : decode cX4_kindOf 6 = .ok (.iload_n 2, 1) := by decide +kernel
theorem dX4_kindOf_7 : decode cX4_kindOf 7 = .ok (.aload_n 0, 1) := by decide +kernel
theorem dX4_kindOf_8 : decode cX4_kindOf 8 = .ok (.getfield 17, 3) := by decide +kernel
theorem dX4_kindOf_11 : decode cX4_kindOf 11 = .ok (.iconst 0, 1) := by decide +kernel
theorem dX4_kindOf_12 : decode cX4_kindOf 12 = .ok (.iaload, 1) := by decide +kernel
theorem dX4_kindOf_13 : decode cX4_kindOf 13 = .ok (.aload_n 0, 1) := by decide +kernel
theorem dX4_kindOf_14 : decode cX4_kindOf 14 = .ok (.getfield 17, 3) := by decide +kernel
theorem dX4_kindOf_17 : decode cX4_kindOf 17 = .ok (.iconst 1, 1) := by decide +kernel
theorem dX4_kindOf_18 : decode cX4_kindOf 18 = .ok (.iaload, 1) := by decide +kernel
theorem dX4_kindOf_19 : decode cX4_kindOf 19 = .ok (.invokevirtual 85, 3) := by decide +kernel
theorem dX4_kindOf_22 : decode cX4_kindOf 22 = .ok (.ireturn, 1) := by decide +kernel
theorem dX4_fieldsThatAre_0 : decode cX4_fieldsThatAre 0 = .ok (.iconst 0, 1) := by decide +kernel
theorem dX4_fieldsThatAre_1 : decode cX4_fieldsThatAre 1 = .ok (.istore_n 3, 1) := by decide +kernel
theorem dX4_fieldsThatAre_2 : decode cX4_fieldsThatAre 2 = .ok (.iconst 0, 1) := by decide +kernel
theorem dX4_fieldsThatAre_3 : decode cX4_fieldsThatAre 3 = .ok (.istore 4, 2) := by decide +kernel
theorem dX4_fieldsThatAre_5 : decode cX4_fieldsThatAre 5 = .ok (.iload 4, 2) := by decide +kernel
theorem dX4_fieldsThatAre_7 : decode cX4_fieldsThatAre 7 = .ok (.bipush 10, 2) := by decide +kernel
theorem dX4_fieldsThatAre_9 : decode cX4_fieldsThatAre 9 = .ok (.if_icmp .ge 27, 3) := by decide +kernel
theorem dX4_fieldsThatAre_12 : decode cX4_fieldsThatAre 12 = .ok (.aload_n 0, 1) := by decide +kernel
theorem dX4_fieldsThatAre_13 : decode cX4_fieldsThatAre 13 = .ok (.iload_n 2, 1) := by decide +kernel
theorem dX4_fieldsThatAre_14 : decode cX4_fieldsThatAre 14 = .ok (.iload 4, 2) := by decide +kernel
theorem dX4_fieldsThatAre_16 : decode cX4_fieldsThatAre 16 = .ok (.invokevirtual 89, 3) := by decide +kernel
theorem dX4_fieldsThatAre_19 : decode cX4_fieldsThatAre 19 = .ok (.iload_n 1, 1) := by decide +kernel
theorem dX4_fieldsThatAre_20 : decode cX4_fieldsThatAre 20 = .ok (.if_icmp .ne 10, 3) := by decide +kernel
theorem dX4_fieldsThatAre_23 : decode cX4_fieldsThatAre 23 = .ok (.iload_n 3, 1) := by decide +kernel
theorem dX4_fieldsThatAre_24 : decode cX4_fieldsThatAre 24 = .ok (.iconst 1, 1) := by decide +kernel
theorem dX4_fieldsThatAre_25 : decode cX4_fieldsThatAre 25 = .ok (.iload 4, 2) := by decide +kernel
theorem dX4_fieldsThatAre_27 : decode cX4_fieldsThatAre 27 = .ok (.ishl, 1) := by decide +kernel
theorem dX4_fieldsThatAre_28 : decode cX4_fieldsThatAre 28 = .ok (.ior, 1) := by decide +kernel
theorem dX4_fieldsThatAre_29 : decode cX4_fieldsThatAre 29 = .ok (.istore_n 3, 1) := by decide +kernel
theorem dX4_fieldsThatAre_30 : decode cX4_fieldsThatAre 30 = .ok (.iinc 4 1, 3) := by decide +kernel
theorem dX4_fieldsThatAre_33 : decode cX4_fieldsThatAre 33 = .ok (.goto (-28), 3) := by decide +kernel
theorem dX4_fieldsThatAre_36 : decode cX4_fieldsThatAre 36 = .ok (.iload_n 3, 1) := by decide +kernel
theorem dX4_fieldsThatAre_37 : decode cX4_fieldsThatAre 37 = .ok (.ireturn, 1) := by decide +kernel
theorem dX4_readTheSame_0 : decode cX4_readTheSame 0 = .ok (.aload_n 0, 1) := by decide +kernel
theorem dX4_readTheSame_1 : decode cX4_readTheSame 1 = .ok (.iload_n 1, 1) := by decide +kernel
theorem dX4_readTheSame_2 : decode cX4_readTheSame 2 = .ok (.iload_n 3, 1) := by decide +kernel
theorem dX4_readTheSame_3 : decode cX4_readTheSame 3 = .ok (.invokevirtual 89, 3) := by decide +kernel
theorem dX4_readTheSame_6 : decode cX4_readTheSame 6 = .ok (.istore 4, 2) := by decide +kernel
theorem dX4_readTheSame_8 : decode cX4_readTheSame 8 = .ok (.iload 4, 2) := by decide +kernel
theorem dX4_readTheSame_10 : decode cX4_readTheSame 10 = .ok (.aload_n 0, 1) := by decide +kernel
theorem dX4_readTheSame_11 : decode cX4_readTheSame 11 = .ok (.iload_n 2, 1) := by decide +kernel
theorem dX4_readTheSame_12 : decode cX4_readTheSame 12 = .ok (.iload_n 3, 1) := by decide +kernel
theorem dX4_readTheSame_13 : decode cX4_readTheSame 13 = .ok (.invokevirtual 89, 3) := by decide +kernel
theorem dX4_readTheSame_16 : decode cX4_readTheSame 16 = .ok (.if_icmp .eq 5, 3) := by decide +kernel
theorem dX4_readTheSame_19 : decode cX4_readTheSame 19 = .ok (.iconst 0, 1) := by decide +kernel
theorem dX4_readTheSame_20 : decode cX4_readTheSame 20 = .ok (.ireturn, 1) := by decide +kernel
theorem dX4_readTheSame_21 : decode cX4_readTheSame 21 = .ok (.iload 4, 2) := by decide +kernel
theorem dX4_readTheSame_23 : decode cX4_readTheSame 23 = .ok (.iconst 1, 1) := by decide +kernel
theorem dX4_readTheSame_24 : decode cX4_readTheSame 24 = .ok (.if_icmp .ne 18, 3) := by decide +kernel
theorem dX4_readTheSame_27 : decode cX4_readTheSame 27 = .ok (.aload_n 0, 1) := by decide +kernel
theorem dX4_readTheSame_28 : decode cX4_readTheSame 28 = .ok (.iload_n 1, 1) := by decide +kernel
theorem dX4_readTheSame_29 : decode cX4_readTheSame 29 = .ok (.iload_n 3, 1) := by decide +kernel
theorem dX4_readTheSame_30 : decode cX4_readTheSame 30 = .ok (.invokevirtual 91, 3) := by decide +kernel
theorem dX4_readTheSame_33 : decode cX4_readTheSame 33 = .ok (.aload_n 0, 1) := by decide +kernel
theorem dX4_readTheSame_34 : decode cX4_readTheSame 34 = .ok (.iload_n 2, 1) := by decide +kernel
theorem dX4_readTheSame_35 : decode cX4_readTheSame 35 = .ok (.iload_n 3, 1) := by decide +kernel
theorem dX4_readTheSame_36 : decode cX4_readTheSame 36 = .ok (.invokevirtual 91, 3) := by decide +kernel
theorem dX4_readTheSame_39 : decode cX4_readTheSame 39 = .ok (.if_icmp .ne 7, 3) := by decide +kernel
theorem dX4_readTheSame_42 : decode cX4_readTheSame 42 = .ok (.iconst 1, 1) := by decide +kernel
theorem dX4_readTheSame_43 : decode cX4_readTheSame 43 = .ok (.goto 4, 3) := by decide +kernel
theorem dX4_readTheSame_46 : decode cX4_readTheSame 46 = .ok (.iconst 0, 1) := by decide +kernel
theorem dX4_readTheSame_47 : decode cX4_readTheSame 47 = .ok (.ireturn, 1) := by decide +kernel
theorem dX4_lastValue_0 : decode cX4_lastValue 0 = .ok (.aload_n 0, 1) := by decide +kernel
theorem dX4_lastValue_1 : decode cX4_lastValue 1 = .ok (.getfield 11, 3) := by decide +kernel
theorem dX4_lastValue_4 : decode cX4_lastValue 4 = .ok (.iload_n 1, 1) := by decide +kernel
theorem dX4_lastValue_5 : decode cX4_lastValue 5 = .ok (.aaload, 1) := by decide +kernel
theorem dX4_lastValue_6 : decode cX4_lastValue 6 = .ok (.iload_n 2, 1) := by decide +kernel
theorem dX4_lastValue_7 : decode cX4_lastValue 7 = .ok (.aload_n 0, 1) := by decide +kernel
theorem dX4_lastValue_8 : decode cX4_lastValue 8 = .ok (.getfield 17, 3) := by decide +kernel
theorem dX4_lastValue_11 : decode cX4_lastValue 11 = .ok (.iconst 0, 1) := by decide +kernel
theorem dX4_lastValue_12 : decode cX4_lastValue 12 = .ok (.iaload, 1) := by decide +kernel
theorem dX4_lastValue_13 : decode cX4_lastValue 13 = .ok (.invokevirtual 94, 3) := by decide +kernel
theorem dX4_lastValue_16 : decode cX4_lastValue 16 = .ok (.istore_n 3, 1) := by decide +kernel
theorem dX4_lastValue_17 : decode cX4_lastValue 17 = .ok (.iload_n 3, 1) := by decide +kernel
theorem dX4_lastValue_18 : decode cX4_lastValue 18 = .ok (.ifCond .ge 8, 3) := by decide +kernel
theorem dX4_lastValue_21 : decode cX4_lastValue 21 = .ok (.bipush (-6), 2) := by decide +kernel
theorem dX4_lastValue_23 : decode cX4_lastValue 23 = .ok (.goto 14, 3) := by decide +kernel
theorem dX4_lastValue_26 : decode cX4_lastValue 26 = .ok (.aload_n 0, 1) := by decide +kernel
theorem dX4_lastValue_27 : decode cX4_lastValue 27 = .ok (.getfield 11, 3) := by decide +kernel
theorem dX4_lastValue_30 : decode cX4_lastValue 30 = .ok (.iload_n 1, 1) := by decide +kernel
theorem dX4_lastValue_31 : decode cX4_lastValue 31 = .ok (.aaload, 1) := by decide +kernel
theorem dX4_lastValue_32 : decode cX4_lastValue 32 = .ok (.iload_n 2, 1) := by decide +kernel
theorem dX4_lastValue_33 : decode cX4_lastValue 33 = .ok (.iload_n 3, 1) := by decide +kernel
theorem dX4_lastValue_34 : decode cX4_lastValue 34 = .ok (.invokevirtual 97, 3) := by decide +kernel
theorem dX4_lastValue_37 : decode cX4_lastValue 37 = .ok (.ireturn, 1) := by decide +kernel
theorem dX4_lastStrength_0 : decode cX4_lastStrength 0 = .ok (.aload_n 0, 1) := by decide +kernel
theorem dX4_lastStrength_1 : decode cX4_lastStrength 1 = .ok (.getfield 11, 3) := by decide +kernel
theorem dX4_lastStrength_4 : decode cX4_lastStrength 4 = .ok (.iload_n 1, 1) := by decide +kernel
theorem dX4_lastStrength_5 : decode cX4_lastStrength 5 = .ok (.aaload, 1) := by decide +kernel
theorem dX4_lastStrength_6 : decode cX4_lastStrength 6 = .ok (.iload_n 2, 1) := by decide +kernel
theorem dX4_lastStrength_7 : decode cX4_lastStrength 7 = .ok (.aload_n 0, 1) := by decide +kernel
theorem dX4_lastStrength_8 : decode cX4_lastStrength 8 = .ok (.getfield 17, 3) := by decide +kernel
theorem dX4_lastStrength_11 : decode cX4_lastStrength 11 = .ok (.iconst 0, 1) := by decide +kernel
theorem dX4_lastStrength_12 : decode cX4_lastStrength 12 = .ok (.iaload, 1) := by decide +kernel
theorem dX4_lastStrength_13 : decode cX4_lastStrength 13 = .ok (.invokevirtual 94, 3) := by decide +kernel
theorem dX4_lastStrength_16 : decode cX4_lastStrength 16 = .ok (.istore_n 3, 1) := by decide +kernel
theorem dX4_lastStrength_17 : decode cX4_lastStrength 17 = .ok (.iload_n 3, 1) := by decide +kernel
theorem dX4_lastStrength_18 : decode cX4_lastStrength 18 = .ok (.ifCond .ge 8, 3) := by decide +kernel
theorem dX4_lastStrength_21 : decode cX4_lastStrength 21 = .ok (.bipush (-6), 2) := by decide +kernel
theorem dX4_lastStrength_23 : decode cX4_lastStrength 23 = .ok (.goto 14, 3) := by decide +kernel
theorem dX4_lastStrength_26 : decode cX4_lastStrength 26 = .ok (.aload_n 0, 1) := by decide +kernel
theorem dX4_lastStrength_27 : decode cX4_lastStrength 27 = .ok (.getfield 11, 3) := by decide +kernel
theorem dX4_lastStrength_30 : decode cX4_lastStrength 30 = .ok (.iload_n 1, 1) := by decide +kernel
theorem dX4_lastStrength_31 : decode cX4_lastStrength 31 = .ok (.aaload, 1) := by decide +kernel
theorem dX4_lastStrength_32 : decode cX4_lastStrength 32 = .ok (.iload_n 2, 1) := by decide +kernel
theorem dX4_lastStrength_33 : decode cX4_lastStrength 33 = .ok (.iload_n 3, 1) := by decide +kernel
theorem dX4_lastStrength_34 : decode cX4_lastStrength 34 = .ok (.invokevirtual 100, 3) := by decide +kernel
theorem dX4_lastStrength_37 : decode cX4_lastStrength 37 = .ok (.ireturn, 1) := by decide +kernel
theorem dX4_allMarks_0 : decode cX4_allMarks 0 = .ok (.iconst 0, 1) := by decide +kernel
theorem dX4_allMarks_1 : decode cX4_allMarks 1 = .ok (.istore_n 1, 1) := by decide +kernel
theorem dX4_allMarks_2 : decode cX4_allMarks 2 = .ok (.iconst 0, 1) := by decide +kernel
theorem dX4_allMarks_3 : decode cX4_allMarks 3 = .ok (.istore_n 2, 1) := by decide +kernel
theorem dX4_allMarks_4 : decode cX4_allMarks 4 = .ok (.iload_n 2, 1) := by decide +kernel
theorem dX4_allMarks_5 : decode cX4_allMarks 5 = .ok (.iconst 5, 1) := by decide +kernel
theorem dX4_allMarks_6 : decode cX4_allMarks 6 = .ok (.if_icmp .ge 21, 3) := by decide +kernel
theorem dX4_allMarks_9 : decode cX4_allMarks 9 = .ok (.iload_n 1, 1) := by decide +kernel
theorem dX4_allMarks_10 : decode cX4_allMarks 10 = .ok (.aload_n 0, 1) := by decide +kernel
theorem dX4_allMarks_11 : decode cX4_allMarks 11 = .ok (.getfield 11, 3) := by decide +kernel
theorem dX4_allMarks_14 : decode cX4_allMarks 14 = .ok (.iload_n 2, 1) := by decide +kernel
theorem dX4_allMarks_15 : decode cX4_allMarks 15 = .ok (.aaload, 1) := by decide +kernel
theorem dX4_allMarks_16 : decode cX4_allMarks 16 = .ok (.invokevirtual 103, 3) := by decide +kernel
theorem dX4_allMarks_19 : decode cX4_allMarks 19 = .ok (.iadd, 1) := by decide +kernel
theorem dX4_allMarks_20 : decode cX4_allMarks 20 = .ok (.istore_n 1, 1) := by decide +kernel
theorem dX4_allMarks_21 : decode cX4_allMarks 21 = .ok (.iinc 2 1, 3) := by decide +kernel
theorem dX4_allMarks_24 : decode cX4_allMarks 24 = .ok (.goto (-20), 3) := by decide +kernel
theorem dX4_allMarks_27 : decode cX4_allMarks 27 = .ok (.iload_n 1, 1) := by decide +kernel
theorem dX4_allMarks_28 : decode cX4_allMarks 28 = .ok (.ireturn, 1) := by decide +kernel
theorem dX4_wouldBeEmptied_0 : decode cX4_wouldBeEmptied 0 = .ok (.aload_n 0, 1) := by decide +kernel
theorem dX4_wouldBeEmptied_1 : decode cX4_wouldBeEmptied 1 = .ok (.iload_n 2, 1) := by decide +kernel
theorem dX4_wouldBeEmptied_2 : decode cX4_wouldBeEmptied 2 = .ok (.invokevirtual 68, 3) := by decide +kernel
theorem dX4_wouldBeEmptied_5 : decode cX4_wouldBeEmptied 5 = .ok (.iconst 0, 1) := by decide +kernel
theorem dX4_wouldBeEmptied_6 : decode cX4_wouldBeEmptied 6 = .ok (.istore_n 3, 1) := by decide +kernel
theorem dX4_wouldBeEmptied_7 : decode cX4_wouldBeEmptied 7 = .ok (.iload_n 3, 1) := by decide +kernel
theorem dX4_wouldBeEmptied_8 : decode cX4_wouldBeEmptied 8 = .ok (.iconst 5, 1) := by decide +kernel
theorem dX4_wouldBeEmptied_9 : decode cX4_wouldBeEmptied 9 = .ok (.if_icmp .ge 48, 3) := by decide +kernel
theorem dX4_wouldBeEmptied_12 : decode cX4_wouldBeEmptied 12 = .ok (.aload_n 0, 1) := by decide +kernel
theorem dX4_wouldBeEmptied_13 : decode cX4_wouldBeEmptied 13 = .ok (.getfield 11, 3) := by decide +kernel
theorem dX4_wouldBeEmptied_16 : decode cX4_wouldBeEmptied 16 = .ok (.iload_n 3, 1) := by decide +kernel
theorem dX4_wouldBeEmptied_17 : decode cX4_wouldBeEmptied 17 = .ok (.aaload, 1) := by decide +kernel
theorem dX4_wouldBeEmptied_18 : decode cX4_wouldBeEmptied 18 = .ok (.iload_n 1, 1) := by decide +kernel
theorem dX4_wouldBeEmptied_19 : decode cX4_wouldBeEmptied 19 = .ok (.aload_n 0, 1) := by decide +kernel
theorem dX4_wouldBeEmptied_20 : decode cX4_wouldBeEmptied 20 = .ok (.getfield 17, 3) := by decide +kernel
theorem dX4_wouldBeEmptied_23 : decode cX4_wouldBeEmptied 23 = .ok (.iconst 0, 1) := by decide +kernel
theorem dX4_wouldBeEmptied_24 : decode cX4_wouldBeEmptied 24 = .ok (.iaload, 1) := by decide +kernel
theorem dX4_wouldBeEmptied_25 : decode cX4_wouldBeEmptied 25 = .ok (.invokevirtual 107, 3) := by decide +kernel
theorem dX4_wouldBeEmptied_28 : decode cX4_wouldBeEmptied 28 = .ok (.istore 4, 2) := by decide +kernel
theorem dX4_wouldBeEmptied_30 : decode cX4_wouldBeEmptied 30 = .ok (.aload_n 0, 1) := by decide +kernel
theorem dX4_wouldBeEmptied_31 : decode cX4_wouldBeEmptied 31 = .ok (.iload_n 3, 1) := by decide +kernel
theorem dX4_wouldBeEmptied_32 : decode cX4_wouldBeEmptied 32 = .ok (.invokevirtual 36, 3) := by decide +kernel
theorem dX4_wouldBeEmptied_35 : decode cX4_wouldBeEmptied 35 = .ok (.ifCond .eq 16, 3) := by decide +kernel
theorem dX4_wouldBeEmptied_38 : decode cX4_wouldBeEmptied 38 = .ok (.iload 4, 2) := by decide +kernel
theorem dX4_wouldBeEmptied_40 : decode cX4_wouldBeEmptied 40 = .ok (.aload_n 0, 1) := by decide +kernel
theorem dX4_wouldBeEmptied_41 : decode cX4_wouldBeEmptied 41 = .ok (.getfield 28, 3) := by decide +kernel
theorem dX4_wouldBeEmptied_44 : decode cX4_wouldBeEmptied 44 = .ok (.iload_n 3, 1) := by decide +kernel
theorem dX4_wouldBeEmptied_45 : decode cX4_wouldBeEmptied 45 = .ok (.iaload, 1) := by decide +kernel
theorem dX4_wouldBeEmptied_46 : decode cX4_wouldBeEmptied 46 = .ok (.if_icmp .le 5, 3) := by decide +kernel
theorem dX4_wouldBeEmptied_49 : decode cX4_wouldBeEmptied 49 = .ok (.iconst 0, 1) := by decide +kernel
theorem dX4_wouldBeEmptied_50 : decode cX4_wouldBeEmptied 50 = .ok (.ireturn, 1) := by decide +kernel
theorem dX4_wouldBeEmptied_51 : decode cX4_wouldBeEmptied 51 = .ok (.iinc 3 1, 3) := by decide +kernel
theorem dX4_wouldBeEmptied_54 : decode cX4_wouldBeEmptied 54 = .ok (.goto (-47), 3) := by decide +kernel
theorem dX4_wouldBeEmptied_57 : decode cX4_wouldBeEmptied 57 = .ok (.iconst 1, 1) := by decide +kernel
theorem dX4_wouldBeEmptied_58 : decode cX4_wouldBeEmptied 58 = .ok (.ireturn, 1) := by decide +kernel
theorem dX4_pressesToTheLowest_0 : decode cX4_pressesToTheLowest 0 = .ok (.sipush 1000, 3) := by decide +kernel
theorem dX4_pressesToTheLowest_3 : decode cX4_pressesToTheLowest 3 = .ok (.istore_n 2, 1) := by decide +kernel
theorem dX4_pressesToTheLowest_4 : decode cX4_pressesToTheLowest 4 = .ok (.aload_n 0, 1) := by decide +kernel
theorem dX4_pressesToTheLowest_5 : decode cX4_pressesToTheLowest 5 = .ok (.iload_n 1, 1) := by decide +kernel
theorem dX4_pressesToTheLowest_6 : decode cX4_pressesToTheLowest 6 = .ok (.invokevirtual 68, 3) := by decide +kernel
theorem dX4_pressesToTheLowest_9 : decode cX4_pressesToTheLowest 9 = .ok (.iconst 0, 1) := by decide +kernel
theorem dX4_pressesToTheLowest_10 : decode cX4_pressesToTheLowest 10 = .ok (.istore_n 3, 1) := by decide +kernel
theorem dX4_pressesToTheLowest_11 : decode cX4_pressesToTheLowest 11 = .ok (.iload_n 3, 1) := by decide +kernel
theorem dX4_pressesToTheLowest_12 : decode cX4_pressesToTheLowest 12 = .ok (.iconst 5, 1) := by decide +kernel
theorem dX4_pressesToTheLowest_13 : decode cX4_pressesToTheLowest 13 = .ok (.if_icmp .ge 58, 3) := by decide +kernel
theorem dX4_pressesToTheLowest_16 : decode cX4_pressesToTheLowest 16 = .ok (.aload_n 0, 1) := by decide +kernel
theorem dX4_pressesToTheLowest_17 : decode cX4_pressesToTheLowest 17 = .ok (.iload_n 3, 1) := by decide +kernel
theorem dX4_pressesToTheLowest_18 : decode cX4_pressesToTheLowest 18 = .ok (.invokevirtual 36, 3) := by decide +kernel
theorem dX4_pressesToTheLowest_21 : decode cX4_pressesToTheLowest 21 = .ok (.ifCond .eq 14, 3) := by decide +kernel
theorem dX4_pressesToTheLowest_24 : decode cX4_pressesToTheLowest 24 = .ok (.aload_n 0, 1) := by decide +kernel
theorem dX4_pressesToTheLowest_25 : decode cX4_pressesToTheLowest 25 = .ok (.getfield 28, 3) := by decide +kernel
theorem dX4_pressesToTheLowest_28 : decode cX4_pressesToTheLowest 28 = .ok (.iload_n 3, 1) := by decide +kernel
theorem dX4_pressesToTheLowest_29 : decode cX4_pressesToTheLowest 29 = .ok (.iaload, 1) := by decide +kernel
theorem dX4_pressesToTheLowest_30 : decode cX4_pressesToTheLowest 30 = .ok (.ifCond .ne 5, 3) := by decide +kernel
theorem dX4_pressesToTheLowest_33 : decode cX4_pressesToTheLowest 33 = .ok (.iconst 0, 1) := by decide +kernel
theorem dX4_pressesToTheLowest_34 : decode cX4_pressesToTheLowest 34 = .ok (.ireturn, 1) := by decide +kernel
theorem dX4_pressesToTheLowest_35 : decode cX4_pressesToTheLowest 35 = .ok (.aload_n 0, 1) := by decide +kernel
theorem dX4_pressesToTheLowest_36 : decode cX4_pressesToTheLowest 36 = .ok (.iload_n 3, 1) := by decide +kernel
theorem dX4_pressesToTheLowest_37 : decode cX4_pressesToTheLowest 37 = .ok (.invokevirtual 36, 3) := by decide +kernel
theorem dX4_pressesToTheLowest_40 : decode cX4_pressesToTheLowest 40 = .ok (.ifCond .eq 25, 3) := by decide +kernel
theorem dX4_pressesToTheLowest_43 : decode cX4_pressesToTheLowest 43 = .ok (.iload_n 3, 1) := by decide +kernel
theorem dX4_pressesToTheLowest_44 : decode cX4_pressesToTheLowest 44 = .ok (.aload_n 0, 1) := by decide +kernel
theorem dX4_pressesToTheLowest_45 : decode cX4_pressesToTheLowest 45 = .ok (.getfield 25, 3) := by decide +kernel
theorem dX4_pressesToTheLowest_48 : decode cX4_pressesToTheLowest 48 = .ok (.if_icmp .ge 17, 3) := by decide +kernel
theorem dX4_pressesToTheLowest_51 : decode cX4_pressesToTheLowest 51 = .ok (.iload_n 2, 1) := by decide +kernel
theorem dX4_pressesToTheLowest_52 : decode cX4_pressesToTheLowest 52 = .ok (.aload_n 0, 1) := by decide +kernel
theorem dX4_pressesToTheLowest_53 : decode cX4_pressesToTheLowest 53 = .ok (.getfield 11, 3) := by decide +kernel
theorem dX4_pressesToTheLowest_56 : decode cX4_pressesToTheLowest 56 = .ok (.iload_n 3, 1) := by decide +kernel
theorem dX4_pressesToTheLowest_57 : decode cX4_pressesToTheLowest 57 = .ok (.aaload, 1) := by decide +kernel
theorem dX4_pressesToTheLowest_58 : decode cX4_pressesToTheLowest 58 = .ok (.getfield 43, 3) := by decide +kernel
theorem dX4_pressesToTheLowest_61 : decode cX4_pressesToTheLowest 61 = .ok (.invokestatic 110, 3) := by decide +kernel
theorem dX4_pressesToTheLowest_64 : decode cX4_pressesToTheLowest 64 = .ok (.istore_n 2, 1) := by decide +kernel
theorem dX4_pressesToTheLowest_65 : decode cX4_pressesToTheLowest 65 = .ok (.iinc 3 1, 3) := by decide +kernel
theorem dX4_pressesToTheLowest_68 : decode cX4_pressesToTheLowest 68 = .ok (.goto (-57), 3) := by decide +kernel
theorem dX4_pressesToTheLowest_71 : decode cX4_pressesToTheLowest 71 = .ok (.iload_n 2, 1) := by decide +kernel
theorem dX4_pressesToTheLowest_72 : decode cX4_pressesToTheLowest 72 = .ok (.ireturn, 1) := by decide +kernel
theorem dX5_init_0 : decode cX5_init 0 = .ok (.aload_n 0, 1) := by decide +kernel
theorem dX5_init_1 : decode cX5_init 1 = .ok (.invokespecial 3, 3) := by decide +kernel
theorem dX5_init_4 : decode cX5_init 4 = .ok (.aload_n 0, 1) := by decide +kernel
theorem dX5_init_5 : decode cX5_init 5 = .ok (.iconst 5, 1) := by decide +kernel
theorem dX5_init_6 : decode cX5_init 6 = .ok (.newarray .int, 2) := by decide +kernel
theorem dX5_init_8 : decode cX5_init 8 = .ok (.putfield 9, 3) := by decide +kernel
theorem dX5_init_11 : decode cX5_init 11 = .ok (.aload_n 0, 1) := by decide +kernel
theorem dX5_init_12 : decode cX5_init 12 = .ok (.iconst 5, 1) := by decide +kernel
theorem dX5_init_13 : decode cX5_init 13 = .ok (.newarray .int, 2) := by decide +kernel
theorem dX5_init_15 : decode cX5_init 15 = .ok (.putfield 15, 3) := by decide +kernel
theorem dX5_init_18 : decode cX5_init 18 = .ok (.return_, 1) := by decide +kernel
theorem dX5_takeIn_0 : decode cX5_takeIn 0 = .ok (.aload_n 0, 1) := by decide +kernel
theorem dX5_takeIn_1 : decode cX5_takeIn 1 = .ok (.iconst 0, 1) := by decide +kernel
theorem dX5_takeIn_2 : decode cX5_takeIn 2 = .ok (.putfield 18, 3) := by decide +kernel
theorem dX5_takeIn_5 : decode cX5_takeIn 5 = .ok (.aload_n 0, 1) := by decide +kernel
theorem dX5_takeIn_6 : decode cX5_takeIn 6 = .ok (.iconst 0, 1) := by decide +kernel
theorem dX5_takeIn_7 : decode cX5_takeIn 7 = .ok (.putfield 22, 3) := by decide +kernel
theorem dX5_takeIn_10 : decode cX5_takeIn 10 = .ok (.iconst 0, 1) := by decide +kernel
theorem dX5_takeIn_11 : decode cX5_takeIn 11 = .ok (.istore_n 3, 1) := by decide +kernel
theorem dX5_takeIn_12 : decode cX5_takeIn 12 = .ok (.iload_n 3, 1) := by decide +kernel
theorem dX5_takeIn_13 : decode cX5_takeIn 13 = .ok (.iconst 5, 1) := by decide +kernel
theorem dX5_takeIn_14 : decode cX5_takeIn 14 = .ok (.if_icmp .ge 47, 3) := by decide +kernel
theorem dX5_takeIn_17 : decode cX5_takeIn 17 = .ok (.aload_n 1, 1) := by decide +kernel
theorem dX5_takeIn_18 : decode cX5_takeIn 18 = .ok (.iload_n 3, 1) := by decide +kernel
theorem dX5_takeIn_19 : decode cX5_takeIn 19 = .ok (.iload_n 2, 1) := by decide +kernel
theorem dX5_takeIn_20 : decode cX5_takeIn 20 = .ok (.invokevirtual 25, 3) := by decide +kernel
theorem dX5_takeIn_23 : decode cX5_takeIn 23 = .ok (.iconst 1, 1) := by decide +kernel
theorem dX5_takeIn_24 : decode cX5_takeIn 24 = .ok (.if_icmp .ne 31, 3) := by decide +kernel
theorem dX5_takeIn_27 : decode cX5_takeIn 27 = .ok (.aload_n 0, 1) := by decide +kernel
theorem dX5_takeIn_28 : decode cX5_takeIn 28 = .ok (.dup, 1) := by decide +kernel
theorem dX5_takeIn_29 : decode cX5_takeIn 29 = .ok (.getfield 18, 3) := by decide +kernel
theorem dX5_takeIn_32 : decode cX5_takeIn 32 = .ok (.iconst 1, 1) := by decide +kernel
theorem dX5_takeIn_33 : decode cX5_takeIn 33 = .ok (.iload_n 3, 1) := by decide +kernel
theorem dX5_takeIn_34 : decode cX5_takeIn 34 = .ok (.ishl, 1) := by decide +kernel
theorem dX5_takeIn_35 : decode cX5_takeIn 35 = .ok (.ior, 1) := by decide +kernel
theorem dX5_takeIn_36 : decode cX5_takeIn 36 = .ok (.putfield 18, 3) := by decide +kernel
theorem dX5_takeIn_39 : decode cX5_takeIn 39 = .ok (.aload_n 0, 1) := by decide +kernel
theorem dX5_takeIn_40 : decode cX5_takeIn 40 = .ok (.aload_n 1, 1) := by decide +kernel
theorem dX5_takeIn_41 : decode cX5_takeIn 41 = .ok (.iload_n 3, 1) := by decide +kernel
theorem dX5_takeIn_42 : decode cX5_takeIn 42 = .ok (.iload_n 2, 1) := by decide +kernel
theorem dX5_takeIn_43 : decode cX5_takeIn 43 = .ok (.invokevirtual 31, 3) := by decide +kernel
theorem dX5_takeIn_46 : decode cX5_takeIn 46 = .ok (.aload_n 1, 1) := by decide +kernel
theorem dX5_takeIn_47 : decode cX5_takeIn 47 = .ok (.iload_n 3, 1) := by decide +kernel
theorem dX5_takeIn_48 : decode cX5_takeIn 48 = .ok (.iload_n 2, 1) := by decide +kernel
theorem dX5_takeIn_49 : decode cX5_takeIn 49 = .ok (.invokevirtual 34, 3) := by decide +kernel
theorem dX5_takeIn_52 : decode cX5_takeIn 52 = .ok (.invokevirtual 37, 3) := by decide +kernel
theorem dX5_takeIn_55 : decode cX5_takeIn 55 = .ok (.iinc 3 1, 3) := by decide +kernel
theorem dX5_takeIn_58 : decode cX5_takeIn 58 = .ok (.goto (-46), 3) := by decide +kernel
theorem dX5_takeIn_61 : decode cX5_takeIn 61 = .ok (.aload_n 0, 1) := by decide +kernel
theorem dX5_takeIn_62 : decode cX5_takeIn 62 = .ok (.invokevirtual 41, 3) := by decide +kernel
theorem dX5_takeIn_65 : decode cX5_takeIn 65 = .ok (.return_, 1) := by decide +kernel
theorem dX5_addVotes_0 : decode cX5_addVotes 0 = .ok (.iconst 0, 1) := by decide +kernel
theorem dX5_addVotes_1 : decode cX5_addVotes 1 = .ok (.istore_n 3, 1) := by decide +kernel
theorem dX5_addVotes_2 : decode cX5_addVotes 2 = .ok (.iload_n 3, 1) := by decide +kernel
theorem dX5_addVotes_3 : decode cX5_addVotes 3 = .ok (.aload_n 0, 1) := by decide +kernel
theorem dX5_addVotes_4 : decode cX5_addVotes 4 = .ok (.getfield 22, 3) := by decide +kernel
theorem dX5_addVotes_7 : decode cX5_addVotes 7 = .ok (.if_icmp .ge 30, 3) := by decide +kernel
theorem dX5_addVotes_10 : decode cX5_addVotes 10 = .ok (.aload_n 0, 1) := by decide +kernel
theorem dX5_addVotes_11 : decode cX5_addVotes 11 = .ok (.getfield 9, 3) := by decide +kernel
theorem dX5_addVotes_14 : decode cX5_addVotes 14 = .ok (.iload_n 3, 1) := by decide +kernel
theorem dX5_addVotes_15 : decode cX5_addVotes 15 = .ok (.iaload, 1) := by decide +kernel
theorem dX5_addVotes_16 : decode cX5_addVotes 16 = .ok (.iload_n 1, 1) := by decide +kernel
