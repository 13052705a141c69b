theorem dX3_numberAt_51 : decode cX3_numberAt 51 = .ok (.isub, 1) := by decide +kernel
theorem dX3_numberAt_52 : decode cX3_numberAt 52 = .ok (.goto 7, 3) := by decide +kernel
theorem dX3_numberAt_55 : decode cX3_numberAt 55 = .ok (.iload_n 1, 1) := by decide +kernel
theorem dX3_numberAt_56 : decode cX3_numberAt 56 = .ok (.iload 6, 2) := by decide +kernel
theorem dX3_numberAt_58 : decode cX3_numberAt 58 = .ok (.iadd, 1) := by decide +kernel
theorem dX3_numberAt_59 : decode cX3_numberAt 59 = .ok (.istore 7, 2) := by decide +kernel
theorem dX3_numberAt_61 : decode cX3_numberAt 61 = .ok (.lload 4, 2) := by decide +kernel
theorem dX3_numberAt_63 : decode cX3_numberAt 63 = .ok (.bipush 8, 2) := by decide +kernel
theorem dX3_numberAt_65 : decode cX3_numberAt 65 = .ok (.lshl, 1) := by decide +kernel
theorem dX3_numberAt_66 : decode cX3_numberAt 66 = .ok (.aload_n 0, 1) := by decide +kernel
theorem dX3_numberAt_67 : decode cX3_numberAt 67 = .ok (.getfield 13, 3) := by decide +kernel
theorem dX3_numberAt_70 : decode cX3_numberAt 70 = .ok (.iload 7, 2) := by decide +kernel
theorem dX3_numberAt_72 : decode cX3_numberAt 72 = .ok (.baload, 1) := by decide +kernel
theorem dX3_numberAt_73 : decode cX3_numberAt 73 = .ok (.sipush 255, 3) := by decide +kernel
theorem dX3_numberAt_76 : decode cX3_numberAt 76 = .ok (.iand, 1) := by decide +kernel
theorem dX3_numberAt_77 : decode cX3_numberAt 77 = .ok (.i2l, 1) := by decide +kernel
theorem dX3_numberAt_78 : decode cX3_numberAt 78 = .ok (.lor, 1) := by decide +kernel
theorem dX3_numberAt_79 : decode cX3_numberAt 79 = .ok (.lstore 4, 2) := by decide +kernel
theorem dX3_numberAt_81 : decode cX3_numberAt 81 = .ok (.iinc 6 1, 3) := by decide +kernel
theorem dX3_numberAt_84 : decode cX3_numberAt 84 = .ok (.goto (-50), 3) := by decide +kernel
theorem dX3_numberAt_87 : decode cX3_numberAt 87 = .ok (.lload 4, 2) := by decide +kernel
theorem dX3_numberAt_89 : decode cX3_numberAt 89 = .ok (.lreturn, 1) := by decide +kernel
theorem dX3_append_0 : decode cX3_append 0 = .ok (.iconst 0, 1) := by decide +kernel
theorem dX3_append_1 : decode cX3_append 1 = .ok (.istore 5, 2) := by decide +kernel
theorem dX3_append_3 : decode cX3_append 3 = .ok (.iload 5, 2) := by decide +kernel
theorem dX3_append_5 : decode cX3_append 5 = .ok (.iload_n 3, 1) := by decide +kernel
theorem dX3_append_6 : decode cX3_append 6 = .ok (.if_icmp .ge 67, 3) := by decide +kernel
theorem dX3_append_9 : decode cX3_append 9 = .ok (.aload_n 0, 1) := by decide +kernel
theorem dX3_append_10 : decode cX3_append 10 = .ok (.getfield 19, 3) := by decide +kernel
theorem dX3_append_13 : decode cX3_append 13 = .ok (.aload_n 0, 1) := by decide +kernel
theorem dX3_append_14 : decode cX3_append 14 = .ok (.getfield 13, 3) := by decide +kernel
theorem dX3_append_17 : decode cX3_append 17 = .ok (.arraylength, 1) := by decide +kernel
theorem dX3_append_18 : decode cX3_append 18 = .ok (.if_icmp .ge 55, 3) := by decide +kernel
theorem dX3_append_21 : decode cX3_append 21 = .ok (.bipush 8, 2) := by decide +kernel
theorem dX3_append_23 : decode cX3_append 23 = .ok (.iload 4, 2) := by decide +kernel
theorem dX3_append_25 : decode cX3_append 25 = .ok (.ifCond .eq 8, 3) := by decide +kernel
theorem dX3_append_28 : decode cX3_append 28 = .ok (.iload 5, 2) := by decide +kernel
theorem dX3_append_30 : decode cX3_append 30 = .ok (.goto 9, 3) := by decide +kernel
theorem dX3_append_33 : decode cX3_append 33 = .ok (.iload_n 3, 1) := by decide +kernel
theorem dX3_append_34 : decode cX3_append 34 = .ok (.iconst 1, 1) := by decide +kernel
theorem dX3_append_35 : decode cX3_append 35 = .ok (.isub, 1) := by decide +kernel
theorem dX3_append_36 : decode cX3_append 36 = .ok (.iload 5, 2) := by decide +kernel
theorem dX3_append_38 : decode cX3_append 38 = .ok (.isub, 1) := by decide +kernel
theorem dX3_append_39 : decode cX3_append 39 = .ok (.imul, 1) := by decide +kernel
theorem dX3_append_40 : decode cX3_append 40 = .ok (.istore 6, 2) := by decide +kernel
theorem dX3_append_42 : decode cX3_append 42 = .ok (.aload_n 0, 1) := by decide +kernel
theorem dX3_append_43 : decode cX3_append 43 = .ok (.getfield 13, 3) := by decide +kernel
theorem dX3_append_46 : decode cX3_append 46 = .ok (.aload_n 0, 1) := by decide +kernel
theorem dX3_append_47 : decode cX3_append 47 = .ok (.getfield 19, 3) := by decide +kernel
theorem dX3_append_50 : decode cX3_append 50 = .ok (.lload_n 1, 1) := by decide +kernel
theorem dX3_append_51 : decode cX3_append 51 = .ok (.iload 6, 2) := by decide +kernel
theorem dX3_append_53 : decode cX3_append 53 = .ok (.lushr, 1) := by decide +kernel
theorem dX3_append_54 : decode cX3_append 54 = .ok (.l2i, 1) := by decide +kernel
theorem dX3_append_55 : decode cX3_append 55 = .ok (.i2b, 1) := by decide +kernel
theorem dX3_append_56 : decode cX3_append 56 = .ok (.bastore, 1) := by decide +kernel
theorem dX3_append_57 : decode cX3_append 57 = .ok (.aload_n 0, 1) := by decide +kernel
theorem dX3_append_58 : decode cX3_append 58 = .ok (.dup, 1) := by decide +kernel
theorem dX3_append_59 : decode cX3_append 59 = .ok (.getfield 19, 3) := by decide +kernel
theorem dX3_append_62 : decode cX3_append 62 = .ok (.iconst 1, 1) := by decide +kernel
theorem dX3_append_63 : decode cX3_append 63 = .ok (.iadd, 1) := by decide +kernel
theorem dX3_append_64 : decode cX3_append 64 = .ok (.putfield 19, 3) := by decide +kernel
theorem dX3_append_67 : decode cX3_append 67 = .ok (.iinc 5 1, 3) := by decide +kernel
theorem dX3_append_70 : decode cX3_append 70 = .ok (.goto (-67), 3) := by decide +kernel
theorem dX3_append_73 : decode cX3_append 73 = .ok (.return_, 1) := by decide +kernel
theorem dX3_become_0 : decode cX3_become 0 = .ok (.aload_n 0, 1) := by decide +kernel
theorem dX3_become_1 : decode cX3_become 1 = .ok (.aload_n 1, 1) := by decide +kernel
theorem dX3_become_2 : decode cX3_become 2 = .ok (.getfield 19, 3) := by decide +kernel
theorem dX3_become_5 : decode cX3_become 5 = .ok (.aload_n 0, 1) := by decide +kernel
theorem dX3_become_6 : decode cX3_become 6 = .ok (.getfield 13, 3) := by decide +kernel
theorem dX3_become_9 : decode cX3_become 9 = .ok (.arraylength, 1) := by decide +kernel
theorem dX3_become_10 : decode cX3_become 10 = .ok (.invokestatic 38, 3) := by decide +kernel
theorem dX3_become_13 : decode cX3_become 13 = .ok (.putfield 19, 3) := by decide +kernel
theorem dX3_become_16 : decode cX3_become 16 = .ok (.aload_n 1, 1) := by decide +kernel
theorem dX3_become_17 : decode cX3_become 17 = .ok (.getfield 13, 3) := by decide +kernel
theorem dX3_become_20 : decode cX3_become 20 = .ok (.iconst 0, 1) := by decide +kernel
theorem dX3_become_21 : decode cX3_become 21 = .ok (.aload_n 0, 1) := by decide +kernel
theorem dX3_become_22 : decode cX3_become 22 = .ok (.getfield 13, 3) := by decide +kernel
theorem dX3_become_25 : decode cX3_become 25 = .ok (.iconst 0, 1) := by decide +kernel
theorem dX3_become_26 : decode cX3_become 26 = .ok (.aload_n 0, 1) := by decide +kernel
theorem dX3_become_27 : decode cX3_become 27 = .ok (.getfield 19, 3) := by decide +kernel
theorem dX3_become_30 : decode cX3_become 30 = .ok (.invokestatic 41, 3) := by decide +kernel
theorem dX3_become_33 : decode cX3_become 33 = .ok (.return_, 1) := by decide +kernel
theorem dX4_init_0 : decode cX4_init 0 = .ok (.aload_n 0, 1) := by decide +kernel
theorem dX4_init_1 : decode cX4_init 1 = .ok (.invokespecial 1, 3) := by decide +kernel
theorem dX4_init_4 : decode cX4_init 4 = .ok (.aload_n 0, 1) := by decide +kernel
theorem dX4_init_5 : decode cX4_init 5 = .ok (.iconst 0, 1) := by decide +kernel
theorem dX4_init_6 : decode cX4_init 6 = .ok (.iload_n 2, 1) := by decide +kernel
theorem dX4_init_7 : decode cX4_init 7 = .ok (.invokestatic 7, 3) := by decide +kernel
theorem dX4_init_10 : decode cX4_init 10 = .ok (.newarray .int, 2) := by decide +kernel
theorem dX4_init_12 : decode cX4_init 12 = .ok (.putfield 13, 3) := by decide +kernel
theorem dX4_init_15 : decode cX4_init 15 = .ok (.aload_n 0, 1) := by decide +kernel
theorem dX4_init_16 : decode cX4_init 16 = .ok (.iconst 2, 1) := by decide +kernel
theorem dX4_init_17 : decode cX4_init 17 = .ok (.iconst 0, 1) := by decide +kernel
theorem dX4_init_18 : decode cX4_init 18 = .ok (.iload_n 1, 1) := by decide +kernel
theorem dX4_init_19 : decode cX4_init 19 = .ok (.invokestatic 7, 3) := by decide +kernel
theorem dX4_init_22 : decode cX4_init 22 = .ok (.imul, 1) := by decide +kernel
theorem dX4_init_23 : decode cX4_init 23 = .ok (.newarray .int, 2) := by decide +kernel
theorem dX4_init_25 : decode cX4_init 25 = .ok (.putfield 19, 3) := by decide +kernel
theorem dX4_init_28 : decode cX4_init 28 = .ok (.return_, 1) := by decide +kernel
theorem dX4_clear_0 : decode cX4_clear 0 = .ok (.aload_n 0, 1) := by decide +kernel
theorem dX4_clear_1 : decode cX4_clear 1 = .ok (.iconst 0, 1) := by decide +kernel
theorem dX4_clear_2 : decode cX4_clear 2 = .ok (.putfield 22, 3) := by decide +kernel
theorem dX4_clear_5 : decode cX4_clear 5 = .ok (.aload_n 0, 1) := by decide +kernel
theorem dX4_clear_6 : decode cX4_clear 6 = .ok (.iconst 0, 1) := by decide +kernel
theorem dX4_clear_7 : decode cX4_clear 7 = .ok (.putfield 26, 3) := by decide +kernel
theorem dX4_clear_10 : decode cX4_clear 10 = .ok (.return_, 1) := by decide +kernel
theorem dX4_planSize_0 : decode cX4_planSize 0 = .ok (.aload_n 0, 1) := by decide +kernel
theorem dX4_planSize_1 : decode cX4_planSize 1 = .ok (.getfield 22, 3) := by decide +kernel
theorem dX4_planSize_4 : decode cX4_planSize 4 = .ok (.ireturn, 1) := by decide +kernel
theorem dX4_pointSize_0 : decode cX4_pointSize 0 = .ok (.aload_n 0, 1) := by decide +kernel
theorem dX4_pointSize_1 : decode cX4_pointSize 1 = .ok (.getfield 26, 3) := by decide +kernel
theorem dX4_pointSize_4 : decode cX4_pointSize 4 = .ok (.iconst 2, 1) := by decide +kernel
theorem dX4_pointSize_5 : decode cX4_pointSize 5 = .ok (.idiv, 1) := by decide +kernel
theorem dX4_pointSize_6 : decode cX4_pointSize 6 = .ok (.ireturn, 1) := by decide +kernel
theorem dX4_hasRoomForPlan_0 : decode cX4_hasRoomForPlan 0 = .ok (.iload_n 1, 1) := by decide +kernel
theorem dX4_hasRoomForPlan_1 : decode cX4_hasRoomForPlan 1 = .ok (.aload_n 0, 1) := by decide +kernel
theorem dX4_hasRoomForPlan_2 : decode cX4_hasRoomForPlan 2 = .ok (.getfield 13, 3) := by decide +kernel
theorem dX4_hasRoomForPlan_5 : decode cX4_hasRoomForPlan 5 = .ok (.arraylength, 1) := by decide +kernel
theorem dX4_hasRoomForPlan_6 : decode cX4_hasRoomForPlan 6 = .ok (.aload_n 0, 1) := by decide +kernel
theorem dX4_hasRoomForPlan_7 : decode cX4_hasRoomForPlan 7 = .ok (.getfield 22, 3) := by decide +kernel
theorem dX4_hasRoomForPlan_10 : decode cX4_hasRoomForPlan 10 = .ok (.isub, 1) := by decide +kernel
theorem dX4_hasRoomForPlan_11 : decode cX4_hasRoomForPlan 11 = .ok (.if_icmp .gt 7, 3) := by decide +kernel
theorem dX4_hasRoomForPlan_14 : decode cX4_hasRoomForPlan 14 = .ok (.iconst 1, 1) := by decide +kernel
theorem dX4_hasRoomForPlan_15 : decode cX4_hasRoomForPlan 15 = .ok (.goto 4, 3) := by decide +kernel
theorem dX4_hasRoomForPlan_18 : decode cX4_hasRoomForPlan 18 = .ok (.iconst 0, 1) := by decide +kernel
theorem dX4_hasRoomForPlan_19 : decode cX4_hasRoomForPlan 19 = .ok (.ireturn, 1) := by decide +kernel
theorem dX4_hasRoomForPoint_0 : decode cX4_hasRoomForPoint 0 = .ok (.aload_n 0, 1) := by decide +kernel
theorem dX4_hasRoomForPoint_1 : decode cX4_hasRoomForPoint 1 = .ok (.getfield 26, 3) := by decide +kernel
theorem dX4_hasRoomForPoint_4 : decode cX4_hasRoomForPoint 4 = .ok (.aload_n 0, 1) := by decide +kernel
theorem dX4_hasRoomForPoint_5 : decode cX4_hasRoomForPoint 5 = .ok (.getfield 19, 3) := by decide +kernel
theorem dX4_hasRoomForPoint_8 : decode cX4_hasRoomForPoint 8 = .ok (.arraylength, 1) := by decide +kernel
theorem dX4_hasRoomForPoint_9 : decode cX4_hasRoomForPoint 9 = .ok (.iconst 2, 1) := by decide +kernel
theorem dX4_hasRoomForPoint_10 : decode cX4_hasRoomForPoint 10 = .ok (.isub, 1) := by decide +kernel
theorem dX4_hasRoomForPoint_11 : decode cX4_hasRoomForPoint 11 = .ok (.if_icmp .gt 7, 3) := by decide +kernel
theorem dX4_hasRoomForPoint_14 : decode cX4_hasRoomForPoint 14 = .ok (.iconst 1, 1) := by decide +kernel
theorem dX4_hasRoomForPoint_15 : decode cX4_hasRoomForPoint 15 = .ok (.goto 4, 3) := by decide +kernel
theorem dX4_hasRoomForPoint_18 : decode cX4_hasRoomForPoint 18 = .ok (.iconst 0, 1) := by decide +kernel
theorem dX4_hasRoomForPoint_19 : decode cX4_hasRoomForPoint 19 = .ok (.ireturn, 1) := by decide +kernel
theorem dX4_addNumber_0 : decode cX4_addNumber 0 = .ok (.aload_n 0, 1) := by decide +kernel
theorem dX4_addNumber_1 : decode cX4_addNumber 1 = .ok (.getfield 22, 3) := by decide +kernel
theorem dX4_addNumber_4 : decode cX4_addNumber 4 = .ok (.aload_n 0, 1) := by decide +kernel
theorem dX4_addNumber_5 : decode cX4_addNumber 5 = .ok (.getfield 13, 3) := by decide +kernel
theorem dX4_addNumber_8 : decode cX4_addNumber 8 = .ok (.arraylength, 1) := by decide +kernel
theorem dX4_addNumber_9 : decode cX4_addNumber 9 = .ok (.if_icmp .ge 23, 3) := by decide +kernel
theorem dX4_addNumber_12 : decode cX4_addNumber 12 = .ok (.aload_n 0, 1) := by decide +kernel
theorem dX4_addNumber_13 : decode cX4_addNumber 13 = .ok (.getfield 13, 3) := by decide +kernel
theorem dX4_addNumber_16 : decode cX4_addNumber 16 = .ok (.aload_n 0, 1) := by decide +kernel
theorem dX4_addNumber_17 : decode cX4_addNumber 17 = .ok (.getfield 22, 3) := by decide +kernel
theorem dX4_addNumber_20 : decode cX4_addNumber 20 = .ok (.iload_n 1, 1) := by decide +kernel
theorem dX4_addNumber_21 : decode cX4_addNumber 21 = .ok (.iastore, 1) := by decide +kernel
theorem dX4_addNumber_22 : decode cX4_addNumber 22 = .ok (.aload_n 0, 1) := by decide +kernel
theorem dX4_addNumber_23 : decode cX4_addNumber 23 = .ok (.dup, 1) := by decide +kernel
theorem dX4_addNumber_24 : decode cX4_addNumber 24 = .ok (.getfield 22, 3) := by decide +kernel
theorem dX4_addNumber_27 : decode cX4_addNumber 27 = .ok (.iconst 1, 1) := by decide +kernel
theorem dX4_addNumber_28 : decode cX4_addNumber 28 = .ok (.iadd, 1) := by decide +kernel
theorem dX4_addNumber_29 : decode cX4_addNumber 29 = .ok (.putfield 22, 3) := by decide +kernel
theorem dX4_addNumber_32 : decode cX4_addNumber 32 = .ok (.return_, 1) := by decide +kernel
theorem dX4_addValue_0 : decode cX4_addValue 0 = .ok (.aload_n 0, 1) := by decide +kernel
theorem dX4_addValue_1 : decode cX4_addValue 1 = .ok (.getfield 26, 3) := by decide +kernel
theorem dX4_addValue_4 : decode cX4_addValue 4 = .ok (.aload_n 0, 1) := by decide +kernel
theorem dX4_addValue_5 : decode cX4_addValue 5 = .ok (.getfield 19, 3) := by decide +kernel
theorem dX4_addValue_8 : decode cX4_addValue 8 = .ok (.arraylength, 1) := by decide +kernel
theorem dX4_addValue_9 : decode cX4_addValue 9 = .ok (.if_icmp .ge 23, 3) := by decide +kernel
theorem dX4_addValue_12 : decode cX4_addValue 12 = .ok (.aload_n 0, 1) := by decide +kernel
theorem dX4_addValue_13 : decode cX4_addValue 13 = .ok (.getfield 19, 3) := by decide +kernel
theorem dX4_addValue_16 : decode cX4_addValue 16 = .ok (.aload_n 0, 1) := by decide +kernel
theorem dX4_addValue_17 : decode cX4_addValue 17 = .ok (.getfield 26, 3) := by decide +kernel
theorem dX4_addValue_20 : decode cX4_addValue 20 = .ok (.iload_n 1, 1) := by decide +kernel
theorem dX4_addValue_21 : decode cX4_addValue 21 = .ok (.iastore, 1) := by decide +kernel
theorem dX4_addValue_22 : decode cX4_addValue 22 = .ok (.aload_n 0, 1) := by decide +kernel
theorem dX4_addValue_23 : decode cX4_addValue 23 = .ok (.dup, 1) := by decide +kernel
theorem dX4_addValue_24 : decode cX4_addValue 24 = .ok (.getfield 26, 3) := by decide +kernel
theorem dX4_addValue_27 : decode cX4_addValue 27 = .ok (.iconst 1, 1) := by decide +kernel
theorem dX4_addValue_28 : decode cX4_addValue 28 = .ok (.iadd, 1) := by decide +kernel
theorem dX4_addValue_29 : decode cX4_addValue 29 = .ok (.putfield 26, 3) := by decide +kernel
theorem dX4_addValue_32 : decode cX4_addValue 32 = .ok (.return_, 1) := by decide +kernel
theorem dX4_planAt_0 : decode cX4_planAt 0 = .ok (.iload_n 1, 1) := by decide +kernel
theorem dX4_planAt_1 : decode cX4_planAt 1 = .ok (.ifCond .lt 11, 3) := by decide +kernel
theorem dX4_planAt_4 : decode cX4_planAt 4 = .ok (.iload_n 1, 1) := by decide +kernel
theorem dX4_planAt_5 : decode cX4_planAt 5 = .ok (.aload_n 0, 1) := by decide +kernel
theorem dX4_planAt_6 : decode cX4_planAt 6 = .ok (.getfield 22, 3) := by decide +kernel
theorem dX4_planAt_9 : decode cX4_planAt 9 = .ok (.if_icmp .lt 13, 3) := by decide +kernel
theorem dX4_planAt_12 : decode cX4_planAt 12 = .ok (.new 29, 3) := by decide +kernel
theorem dX4_planAt_15 : decode cX4_planAt 15 = .ok (.dup, 1) := by decide +kernel
theorem dX4_planAt_16 : decode cX4_planAt 16 = .ok (.ldc 31, 2) := by decide +kernel
theorem dX4_planAt_18 : decode cX4_planAt 18 = .ok (.invokespecial 33, 3) := by decide +kernel
theorem dX4_planAt_21 : decode cX4_planAt 21 = .ok (.athrow, 1) := by decide +kernel
theorem dX4_planAt_22 : decode cX4_planAt 22 = .ok (.aload_n 0, 1) := by decide +kernel
theorem dX4_planAt_23 : decode cX4_planAt 23 = .ok (.getfield 13, 3) := by decide +kernel
theorem dX4_planAt_26 : decode cX4_planAt 26 = .ok (.iload_n 1, 1) := by decide +kernel
theorem dX4_planAt_27 : decode cX4_planAt 27 = .ok (.iaload, 1) := by decide +kernel
theorem dX4_planAt_28 : decode cX4_planAt 28 = .ok (.ireturn, 1) := by decide +kernel
theorem dX4_valueOfPoint_0 : decode cX4_valueOfPoint 0 = .ok (.iload_n 1, 1) := by decide +kernel
theorem dX4_valueOfPoint_1 : decode cX4_valueOfPoint 1 = .ok (.ifCond .lt 20, 3) := by decide +kernel
theorem dX4_valueOfPoint_4 : decode cX4_valueOfPoint 4 = .ok (.iload_n 1, 1) := by decide +kernel
theorem dX4_valueOfPoint_5 : decode cX4_valueOfPoint 5 = .ok (.aload_n 0, 1) := by decide +kernel
theorem dX4_valueOfPoint_6 : decode cX4_valueOfPoint 6 = .ok (.invokevirtual 36, 3) := by decide +kernel
theorem dX4_valueOfPoint_9 : decode cX4_valueOfPoint 9 = .ok (.if_icmp .ge 12, 3) := by decide +kernel
theorem dX4_valueOfPoint_12 : decode cX4_valueOfPoint 12 = .ok (.iload_n 2, 1) := by decide +kernel
theorem dX4_valueOfPoint_13 : decode cX4_valueOfPoint 13 = .ok (.ifCond .lt 8, 3) := by decide +kernel
theorem dX4_valueOfPoint_16 : decode cX4_valueOfPoint 16 = .ok (.iload_n 2, 1) := by decide +kernel
theorem dX4_valueOfPoint_17 : decode cX4_valueOfPoint 17 = .ok (.iconst 1, 1) := by decide +kernel
theorem dX4_valueOfPoint_18 : decode cX4_valueOfPoint 18 = .ok (.if_icmp .le 13, 3) := by decide +kernel
theorem dX4_valueOfPoint_21 : decode cX4_valueOfPoint 21 = .ok (.new 29, 3) := by decide +kernel
theorem dX4_valueOfPoint_24 : decode cX4_valueOfPoint 24 = .ok (.dup, 1) := by decide +kernel
theorem dX4_valueOfPoint_25 : decode cX4_valueOfPoint 25 = .ok (.ldc 40, 2) := by decide +kernel
theorem dX4_valueOfPoint_27 : decode cX4_valueOfPoint 27 = .ok (.invokespecial 33, 3) := by decide +kernel
theorem dX4_valueOfPoint_30 : decode cX4_valueOfPoint 30 = .ok (.athrow, 1) := by decide +kernel
theorem dX4_valueOfPoint_31 : decode cX4_valueOfPoint 31 = .ok (.aload_n 0, 1) := by decide +kernel
theorem dX4_valueOfPoint_32 : decode cX4_valueOfPoint 32 = .ok (.getfield 19, 3) := by decide +kernel
theorem dX4_valueOfPoint_35 : decode cX4_valueOfPoint 35 = .ok (.iconst 2, 1) := by decide +kernel
theorem dX4_valueOfPoint_36 : decode cX4_valueOfPoint 36 = .ok (.iload_n 1, 1) := by decide +kernel
theorem dX4_valueOfPoint_37 : decode cX4_valueOfPoint 37 = .ok (.imul, 1) := by decide +kernel
theorem dX4_valueOfPoint_38 : decode cX4_valueOfPoint 38 = .ok (.iload_n 2, 1) := by decide +kernel
theorem dX4_valueOfPoint_39 : decode cX4_valueOfPoint 39 = .ok (.iadd, 1) := by decide +kernel
theorem dX4_valueOfPoint_40 : decode cX4_valueOfPoint 40 = .ok (.iaload, 1) := by decide +kernel
theorem dX4_valueOfPoint_41 : decode cX4_valueOfPoint 41 = .ok (.ireturn, 1) := by decide +kernel
theorem dX4_isLike_0 : decode cX4_isLike 0 = .ok (.aload_n 0, 1) := by decide +kernel
theorem dX4_isLike_1 : decode cX4_isLike 1 = .ok (.getfield 13, 3) := by decide +kernel
theorem dX4_isLike_4 : decode cX4_isLike 4 = .ok (.aload_n 0, 1) := by decide +kernel
theorem dX4_isLike_5 : decode cX4_isLike 5 = .ok (.getfield 22, 3) := by decide +kernel
theorem dX4_isLike_8 : decode cX4_isLike 8 = .ok (.aload_n 1, 1) := by decide +kernel
theorem dX4_isLike_9 : decode cX4_isLike 9 = .ok (.getfield 13, 3) := by decide +kernel
theorem dX4_isLike_12 : decode cX4_isLike 12 = .ok (.aload_n 1, 1) := by decide +kernel
theorem dX4_isLike_13 : decode cX4_isLike 13 = .ok (.getfield 22, 3) := by decide +kernel
theorem dX4_isLike_16 : decode cX4_isLike 16 = .ok (.invokestatic 42, 3) := by decide +kernel
theorem dX4_isLike_19 : decode cX4_isLike 19 = .ok (.ifCond .eq 29, 3) := by decide +kernel
theorem dX4_isLike_22 : decode cX4_isLike 22 = .ok (.aload_n 0, 1) := by decide +kernel
theorem dX4_isLike_23 : decode cX4_isLike 23 = .ok (.getfield 19, 3) := by decide +kernel
theorem dX4_isLike_26 : decode cX4_isLike 26 = .ok (.aload_n 0, 1) := by decide +kernel
theorem dX4_isLike_27 : decode cX4_isLike 27 = .ok (.getfield 26, 3) := by decide +kernel
theorem dX4_isLike_30 : decode cX4_isLike 30 = .ok (.aload_n 1, 1) := by decide +kernel
theorem dX4_isLike_31 : decode cX4_isLike 31 = .ok (.getfield 19, 3) := by decide +kernel
theorem dX4_isLike_34 : decode cX4_isLike 34 = .ok (.aload_n 1, 1) := by decide +kernel
theorem dX4_isLike_35 : decode cX4_isLike 35 = .ok (.getfield 26, 3) := by decide +kernel
theorem dX4_isLike_38 : decode cX4_isLike 38 = .ok (.invokestatic 42, 3) := by decide +kernel
theorem dX4_isLike_41 : decode cX4_isLike 41 = .ok (.ifCond .eq 7, 3) := by decide +kernel
theorem dX4_isLike_44 : decode cX4_isLike 44 = .ok (.iconst 1, 1) := by decide +kernel
theorem dX4_isLike_45 : decode cX4_isLike 45 = .ok (.goto 4, 3) := by decide +kernel
theorem dX4_isLike_48 : decode cX4_isLike 48 = .ok (.iconst 0, 1) := by decide +kernel
theorem dX4_isLike_49 : decode cX4_isLike 49 = .ok (.ireturn, 1) := by decide +kernel
theorem dX4_startsAlike_0 : decode cX4_startsAlike 0 = .ok (.iload_n 1, 1) := by decide +kernel
theorem dX4_startsAlike_1 : decode cX4_startsAlike 1 = .ok (.iload_n 3, 1) := by decide +kernel
theorem dX4_startsAlike_2 : decode cX4_startsAlike 2 = .ok (.if_icmp .ne 15, 3) := by decide +kernel
theorem dX4_startsAlike_5 : decode cX4_startsAlike 5 = .ok (.iload_n 1, 1) := by decide +kernel
theorem dX4_startsAlike_6 : decode cX4_startsAlike 6 = .ok (.aload_n 0, 1) := by decide +kernel
theorem dX4_startsAlike_7 : decode cX4_startsAlike 7 = .ok (.arraylength, 1) := by decide +kernel
theorem dX4_startsAlike_8 : decode cX4_startsAlike 8 = .ok (.if_icmp .gt 9, 3) := by decide +kernel
theorem dX4_startsAlike_11 : decode cX4_startsAlike 11 = .ok (.iload_n 3, 1) := by decide +kernel
theorem dX4_startsAlike_12 : decode cX4_startsAlike 12 = .ok (.aload_n 2, 1) := by decide +kernel
theorem dX4_startsAlike_13 : decode cX4_startsAlike 13 = .ok (.arraylength, 1) := by decide +kernel
theorem dX4_startsAlike_14 : decode cX4_startsAlike 14 = .ok (.if_icmp .le 5, 3) := by decide +kernel
theorem dX4_startsAlike_17 : decode cX4_startsAlike 17 = .ok (.iconst 0, 1) := by decide +kernel
theorem dX4_startsAlike_18 : decode cX4_startsAlike 18 = .ok (.ireturn, 1) := by decide +kernel
theorem dX4_startsAlike_19 : decode cX4_startsAlike 19 = .ok (.iconst 0, 1) := by decide +kernel
theorem dX4_startsAlike_20 : decode cX4_startsAlike 20 = .ok (.istore 4, 2) := by decide +kernel
theorem dX4_startsAlike_22 : decode cX4_startsAlike 22 = .ok (.iload 4, 2) := by decide +kernel
theorem dX4_startsAlike_24 : decode cX4_startsAlike 24 = .ok (.iload_n 1, 1) := by decide +kernel
theorem dX4_startsAlike_25 : decode cX4_startsAlike 25 = .ok (.if_icmp .ge 22, 3) := by decide +kernel
theorem dX4_startsAlike_28 : decode cX4_startsAlike 28 = .ok (.aload_n 0, 1) := by decide +kernel
theorem dX4_startsAlike_29 : decode cX4_startsAlike 29 = .ok (.iload 4, 2) := by decide +kernel
theorem dX4_startsAlike_31 : decode cX4_startsAlike 31 = .ok (.iaload, 1) := by decide +kernel
theorem dX4_startsAlike_32 : decode cX4_startsAlike 32 = .ok (.aload_n 2, 1) := by decide +kernel
theorem dX4_startsAlike_33 : decode cX4_startsAlike 33 = .ok (.iload 4, 2) := by decide +kernel
theorem dX4_startsAlike_35 : decode cX4_startsAlike 35 = .ok (.iaload, 1) := by decide +kernel
theorem dX4_startsAlike_36 : decode cX4_startsAlike 36 = .ok (.if_icmp .eq 5, 3) := by decide +kernel
theorem dX4_startsAlike_39 : decode cX4_startsAlike 39 = .ok (.iconst 0, 1) := by decide +kernel
theorem dX4_startsAlike_40 : decode cX4_startsAlike 40 = .ok (.ireturn, 1) := by decide +kernel
theorem dX4_startsAlike_41 : decode cX4_startsAlike 41 = .ok (.iinc 4 1, 3) := by decide +kernel
theorem dX4_startsAlike_44 : decode cX4_startsAlike 44 = .ok (.goto (-22), 3) := by decide +kernel
theorem dX4_startsAlike_47 : decode cX4_startsAlike 47 = .ok (.iconst 1, 1) := by decide +kernel
theorem dX4_startsAlike_48 : decode cX4_startsAlike 48 = .ok (.ireturn, 1) := by decide +kernel
theorem dX5_init_0 : decode cX5_init 0 = .ok (.aload_n 0, 1) := by decide +kernel
theorem dX5_init_1 : decode cX5_init 1 = .ok (.invokespecial 1, 3) := by decide +kernel
theorem dX5_init_4 : decode cX5_init 4 = .ok (.aload_n 0, 1) := by decide +kernel
theorem dX5_init_5 : decode cX5_init 5 = .ok (.iload_n 1, 1) := by decide +kernel
theorem dX5_init_6 : decode cX5_init 6 = .ok (.putfield 7, 3) := by decide +kernel
theorem dX5_init_9 : decode cX5_init 9 = .ok (.return_, 1) := by decide +kernel
theorem dX5_putAll_0 : decode cX5_putAll 0 = .ok (.aload_n 0, 1) := by decide +kernel
theorem dX5_putAll_1 : decode cX5_putAll 1 = .ok (.aload_n 1, 1) := by decide +kernel
theorem dX5_putAll_2 : decode cX5_putAll 2 = .ok (.putfield 13, 3) := by decide +kernel
theorem dX5_putAll_5 : decode cX5_putAll 5 = .ok (.aload_n 0, 1) := by decide +kernel
theorem dX5_putAll_6 : decode cX5_putAll 6 = .ok (.aload_n 2, 1) := by decide +kernel
theorem dX5_putAll_7 : decode cX5_putAll 7 = .ok (.putfield 17, 3) := by decide +kernel
theorem dX5_putAll_10 : decode cX5_putAll 10 = .ok (.aload_n 0, 1) := by decide +kernel
theorem dX5_putAll_11 : decode cX5_putAll 11 = .ok (.iload_n 3, 1) := by decide +kernel
theorem dX5_putAll_12 : decode cX5_putAll 12 = .ok (.putfield 21, 3) := by decide +kernel
theorem dX5_putAll_15 : decode cX5_putAll 15 = .ok (.aload_n 0, 1) := by decide +kernel
theorem dX5_putAll_16 : decode cX5_putAll 16 = .ok (.iconst 0, 1) := by decide +kernel
theorem dX5_putAll_17 : decode cX5_putAll 17 = .ok (.putfield 24, 3) := by decide +kernel
theorem dX5_putAll_20 : decode cX5_putAll 20 = .ok (.aload_n 0, 1) := by decide +kernel
theorem dX5_putAll_21 : decode cX5_putAll 21 = .ok (.iconst 0, 1) := by decide +kernel
theorem dX5_putAll_22 : decode cX5_putAll 22 = .ok (.putfield 27, 3) := by decide +kernel
theorem dX5_putAll_25 : decode cX5_putAll 25 = .ok (.aload_n 0, 1) := by decide +kernel
theorem dX5_putAll_26 : decode cX5_putAll 26 = .ok (.getfield 17, 3) := by decide +kernel
theorem dX5_putAll_29 : decode cX5_putAll 29 = .ok (.iconst 0, 1) := by decide +kernel
theorem dX5_putAll_30 : decode cX5_putAll 30 = .ok (.invokevirtual 30, 3) := by decide +kernel
theorem dX5_putAll_33 : decode cX5_putAll 33 = .ok (.aload_n 0, 1) := by decide +kernel
theorem dX5_putAll_34 : decode cX5_putAll 34 = .ok (.getfield 13, 3) := by decide +kernel
theorem dX5_putAll_37 : decode cX5_putAll 37 = .ok (.invokevirtual 36, 3) := by decide +kernel
theorem dX5_putAll_40 : decode cX5_putAll 40 = .ok (.istore 4, 2) := by decide +kernel
theorem dX5_putAll_42 : decode cX5_putAll 42 = .ok (.iconst 0, 1) := by decide +kernel
theorem dX5_putAll_43 : decode cX5_putAll 43 = .ok (.istore 5, 2) := by decide +kernel
theorem dX5_putAll_45 : decode cX5_putAll 45 = .ok (.iload 5, 2) := by decide +kernel
theorem dX5_putAll_47 : decode cX5_putAll 47 = .ok (.iload 4, 2) := by decide +kernel
theorem dX5_putAll_49 : decode cX5_putAll 49 = .ok (.if_icmp .ge 22, 3) := by decide +kernel
theorem dX5_putAll_52 : decode cX5_putAll 52 = .ok (.aload_n 0, 1) := by decide +kernel
theorem dX5_putAll_53 : decode cX5_putAll 53 = .ok (.getfield 24, 3) := by decide +kernel
theorem dX5_putAll_56 : decode cX5_putAll 56 = .ok (.iload 4, 2) := by decide +kernel
theorem dX5_putAll_58 : decode cX5_putAll 58 = .ok (.if_icmp .ge 13, 3) := by decide +kernel
theorem dX5_putAll_61 : decode cX5_putAll 61 = .ok (.aload_n 0, 1) := by decide +kernel
theorem dX5_putAll_62 : decode cX5_putAll 62 = .ok (.invokevirtual 42, 3) := by decide +kernel
theorem dX5_putAll_65 : decode cX5_putAll 65 = .ok (.iinc 5 1, 3) := by decide +kernel
theorem dX5_putAll_68 : decode cX5_putAll 68 = .ok (.goto (-23), 3) := by decide +kernel
theorem dX5_putAll_71 : decode cX5_putAll 71 = .ok (.return_, 1) := by decide +kernel
theorem dX5_putShape_0 : decode cX5_putShape 0 = .ok (.aload_n 0, 1) := by decide +kernel
theorem dX5_putShape_1 : decode cX5_putShape 1 = .ok (.invokevirtual 45, 3) := by decide +kernel
theorem dX5_putShape_4 : decode cX5_putShape 4 = .ok (.istore_n 1, 1) := by decide +kernel
theorem dX5_putShape_5 : decode cX5_putShape 5 = .ok (.aload_n 0, 1) := by decide +kernel
theorem dX5_putShape_6 : decode cX5_putShape 6 = .ok (.invokevirtual 45, 3) := by decide +kernel
theorem dX5_putShape_9 : decode cX5_putShape 9 = .ok (.istore_n 2, 1) := by decide +kernel
theorem dX5_putShape_10 : decode cX5_putShape 10 = .ok (.aload_n 0, 1) := by decide +kernel
theorem dX5_putShape_11 : decode cX5_putShape 11 = .ok (.getfield 17, 3) := by decide +kernel
theorem dX5_putShape_14 : decode cX5_putShape 14 = .ok (.aload_n 0, 1) := by decide +kernel
theorem dX5_putShape_15 : decode cX5_putShape 15 = .ok (.getfield 21, 3) := by decide +kernel
theorem dX5_putShape_18 : decode cX5_putShape 18 = .ok (.i2l, 1) := by decide +kernel
theorem dX5_putShape_19 : decode cX5_putShape 19 = .ok (.iconst 1, 1) := by decide +kernel
theorem dX5_putShape_20 : decode cX5_putShape 20 = .ok (.iconst 0, 1) := by decide +kernel
theorem dX5_putShape_21 : decode cX5_putShape 21 = .ok (.invokevirtual 48, 3) := by decide +kernel
theorem dX5_putShape_24 : decode cX5_putShape 24 = .ok (.aload_n 0, 1) := by decide +kernel
theorem dX5_putShape_25 : decode cX5_putShape 25 = .ok (.iload_n 1, 1) := by decide +kernel
theorem dX5_putShape_26 : decode cX5_putShape 26 = .ok (.i2l, 1) := by decide +kernel
theorem dX5_putShape_27 : decode cX5_putShape 27 = .ok (.iconst 4, 1) := by decide +kernel
theorem dX5_putShape_28 : decode cX5_putShape 28 = .ok (.invokevirtual 52, 3) := by decide +kernel
theorem dX5_putShape_31 : decode cX5_putShape 31 = .ok (.iload_n 1, 1) := by decide +kernel
theorem dX5_putShape_32 : decode cX5_putShape 32 = .ok (.iconst 1, 1) := by decide +kernel
theorem dX5_putShape_33 : decode cX5_putShape 33 = .ok (.if_icmp .ne 9, 3) := by decide +kernel
theorem dX5_putShape_36 : decode cX5_putShape 36 = .ok (.aload_n 0, 1) := by decide +kernel
theorem dX5_putShape_37 : decode cX5_putShape 37 = .ok (.iload_n 2, 1) := by decide +kernel
theorem dX5_putShape_38 : decode cX5_putShape 38 = .ok (.invokevirtual 58, 3) := by decide +kernel
theorem dX5_putShape_41 : decode cX5_putShape 41 = .ok (.return_, 1) := by decide +kernel
theorem dX5_putShape_42 : decode cX5_putShape 42 = .ok (.aload_n 0, 1) := by decide +kernel
theorem dX5_putShape_43 : decode cX5_putShape 43 = .ok (.iload_n 2, 1) := by decide +kernel
theorem dX5_putShape_44 : decode cX5_putShape 44 = .ok (.i2l, 1) := by decide +kernel
theorem dX5_putShape_45 : decode cX5_putShape 45 = .ok (.iconst 4, 1) := by decide +kernel
theorem dX5_putShape_46 : decode cX5_putShape 46 = .ok (.invokevirtual 52, 3) := by decide +kernel
theorem dX5_putShape_49 : decode cX5_putShape 49 = .ok (.iload_n 1, 1) := by decide +kernel
theorem dX5_putShape_50 : decode cX5_putShape 50 = .ok (.iconst 2, 1) := by decide +kernel
theorem dX5_putShape_51 : decode cX5_putShape 51 = .ok (.if_icmp .ne 11, 3) := by decide +kernel
theorem dX5_putShape_54 : decode cX5_putShape 54 = .ok (.aload_n 0, 1) := by decide +kernel
theorem dX5_putShape_55 : decode cX5_putShape 55 = .ok (.iload_n 2, 1) := by decide +kernel
theorem dX5_putShape_56 : decode cX5_putShape 56 = .ok (.invokevirtual 61, 3) := by decide +kernel
theorem dX5_putShape_59 : decode cX5_putShape 59 = .ok (.goto 13, 3) := by decide +kernel
theorem dX5_putShape_62 : decode cX5_putShape 62 = .ok (.iload_n 1, 1) := by decide +kernel
theorem dX5_putShape_63 : decode cX5_putShape 63 = .ok (.iconst 3, 1) := by decide +kernel
theorem dX5_putShape_64 : decode cX5_putShape 64 = .ok (.if_icmp .ne 8, 3) := by decide +kernel
theorem dX5_putShape_67 : decode cX5_putShape 67 = .ok (.aload_n 0, 1) := by decide +kernel
theorem dX5_putShape_68 : decode cX5_putShape 68 = .ok (.iload_n 2, 1) := by decide +kernel
theorem dX5_putShape_69 : decode cX5_putShape 69 = .ok (.invokevirtual 64, 3) := by decide +kernel
theorem dX5_putShape_72 : decode cX5_putShape 72 = .ok (.return_, 1) := by decide +kernel
theorem dX5_nextOfPlan_0 : decode cX5_nextOfPlan 0 = .ok (.aload_n 0, 1) := by decide +kernel
theorem dX5_nextOfPlan_1 : decode cX5_nextOfPlan 1 = .ok (.getfield 13, 3) := by decide +kernel
theorem dX5_nextOfPlan_4 : decode cX5_nextOfPlan 4 = .ok (.aload_n 0, 1) := by decide +kernel
theorem dX5_nextOfPlan_5 : decode cX5_nextOfPlan 5 = .ok (.getfield 24, 3) := by decide +kernel
theorem dX5_nextOfPlan_8 : decode cX5_nextOfPlan 8 = .ok (.invokevirtual 67, 3) := by decide +kernel
theorem dX5_nextOfPlan_11 : decode cX5_nextOfPlan 11 = .ok (.istore_n 1, 1) := by decide +kernel
theorem dX5_nextOfPlan_12 : decode cX5_nextOfPlan 12 = .ok (.aload_n 0, 1) := by decide +kernel
theorem dX5_nextOfPlan_13 : decode cX5_nextOfPlan 13 = .ok (.dup, 1) := by decide +kernel
theorem dX5_nextOfPlan_14 : decode cX5_nextOfPlan 14 = .ok (.getfield 24, 3) := by decide +kernel
theorem dX5_nextOfPlan_17 : decode cX5_nextOfPlan 17 = .ok (.iconst 1, 1) := by decide +kernel
theorem dX5_nextOfPlan_18 : decode cX5_nextOfPlan 18 = .ok (.iadd, 1) := by decide +kernel
theorem dX5_nextOfPlan_19 : decode cX5_nextOfPlan 19 = .ok (.putfield 24, 3) := by decide +kernel
theorem dX5_nextOfPlan_22 : decode cX5_nextOfPlan 22 = .ok (.iload_n 1, 1) := by decide +kernel
theorem dX5_nextOfPlan_23 : decode cX5_nextOfPlan 23 = .ok (.ireturn, 1) := by decide +kernel
theorem dX5_put_0 : decode cX5_put 0 = .ok (.aload_n 0, 1) := by decide +kernel
theorem dX5_put_1 : decode cX5_put 1 = .ok (.getfield 17, 3) := by decide +kernel
theorem dX5_put_4 : decode cX5_put 4 = .ok (.lload_n 1, 1) := by decide +kernel
theorem dX5_put_5 : decode cX5_put 5 = .ok (.iload_n 3, 1) := by decide +kernel
theorem dX5_put_6 : decode cX5_put 6 = .ok (.aload_n 0, 1) := by decide +kernel
theorem dX5_put_7 : decode cX5_put 7 = .ok (.getfield 21, 3) := by decide +kernel
theorem dX5_put_10 : decode cX5_put 10 = .ok (.iconst 1, 1) := by decide +kernel
theorem dX5_put_11 : decode cX5_put 11 = .ok (.if_icmp .ne 7, 3) := by decide +kernel
theorem dX5_put_14 : decode cX5_put 14 = .ok (.iconst 1, 1) := by decide +kernel
theorem dX5_put_15 : decode cX5_put 15 = .ok (.goto 4, 3) := by decide +kernel
theorem dX5_put_18 : decode cX5_put 18 = .ok (.iconst 0, 1) := by decide +kernel
theorem dX5_put_19 : decode cX5_put 19 = .ok (.invokevirtual 48, 3) := by decide +kernel
theorem dX5_put_22 : decode cX5_put 22 = .ok (.return_, 1) := by decide +kernel
theorem dX5_putPoint_0 : decode cX5_putPoint 0 = .ok (.iload_n 1, 1) := by decide +kernel
theorem dX5_putPoint_1 : decode cX5_putPoint 1 = .ok (.ifCond .ne 24, 3) := by decide +kernel
theorem dX5_putPoint_4 : decode cX5_putPoint 4 = .ok (.aload_n 0, 1) := by decide +kernel
theorem dX5_putPoint_5 : decode cX5_putPoint 5 = .ok (.ldc2_w 72, 3) := by decide +kernel
theorem dX5_putPoint_8 : decode cX5_putPoint 8 = .ok (.bipush 8, 2) := by decide +kernel
theorem dX5_putPoint_10 : decode cX5_putPoint 10 = .ok (.invokevirtual 52, 3) := by decide +kernel
theorem dX5_putPoint_13 : decode cX5_putPoint 13 = .ok (.aload_n 0, 1) := by decide +kernel
theorem dX5_putPoint_14 : decode cX5_putPoint 14 = .ok (.ldc2_w 72, 3) := by decide +kernel
theorem dX5_putPoint_17 : decode cX5_putPoint 17 = .ok (.bipush 8, 2) := by decide +kernel
theorem dX5_putPoint_19 : decode cX5_putPoint 19 = .ok (.invokevirtual 52, 3) := by decide +kernel
theorem dX5_putPoint_22 : decode cX5_putPoint 22 = .ok (.goto 8, 3) := by decide +kernel
theorem dX5_putPoint_25 : decode cX5_putPoint 25 = .ok (.aload_n 0, 1) := by decide +kernel
theorem dX5_putPoint_26 : decode cX5_putPoint 26 = .ok (.iconst 1, 1) := by decide +kernel
theorem dX5_putPoint_27 : decode cX5_putPoint 27 = .ok (.invokevirtual 61, 3) := by decide +kernel
theorem dX5_putPoint_30 : decode cX5_putPoint 30 = .ok (.return_, 1) := by decide +kernel
theorem dX5_putRings_0 : decode cX5_putRings 0 = .ok (.iconst 0, 1) := by decide +kernel
theorem dX5_putRings_1 : decode cX5_putRings 1 = .ok (.istore_n 2, 1) := by decide +kernel
theorem dX5_putRings_2 : decode cX5_putRings 2 = .ok (.iload_n 2, 1) := by decide +kernel
theorem dX5_putRings_3 : decode cX5_putRings 3 = .ok (.iload_n 1, 1) := by decide +kernel
theorem dX5_putRings_4 : decode cX5_putRings 4 = .ok (.if_icmp .ge 26, 3) := by decide +kernel
theorem dX5_putRings_7 : decode cX5_putRings 7 = .ok (.aload_n 0, 1) := by decide +kernel
theorem dX5_putRings_8 : decode cX5_putRings 8 = .ok (.invokevirtual 45, 3) := by decide +kernel
theorem dX5_putRings_11 : decode cX5_putRings 11 = .ok (.istore_n 3, 1) := by decide +kernel
theorem dX5_putRings_12 : decode cX5_putRings 12 = .ok (.aload_n 0, 1) := by decide +kernel
theorem dX5_putRings_13 : decode cX5_putRings 13 = .ok (.iload_n 3, 1) := by decide +kernel
theorem dX5_putRings_14 : decode cX5_putRings 14 = .ok (.i2l, 1) := by decide +kernel
theorem dX5_putRings_15 : decode cX5_putRings 15 = .ok (.iconst 4, 1) := by decide +kernel
theorem dX5_putRings_16 : decode cX5_putRings 16 = .ok (.invokevirtual 52, 3) := by decide +kernel
theorem dX5_putRings_19 : decode cX5_putRings 19 = .ok (.aload_n 0, 1) := by decide +kernel
theorem dX5_putRings_20 : decode cX5_putRings 20 = .ok (.iload_n 3, 1) := by decide +kernel
theorem dX5_putRings_21 : decode cX5_putRings 21 = .ok (.invokevirtual 61, 3) := by decide +kernel
theorem dX5_putRings_24 : decode cX5_putRings 24 = .ok (.iinc 2 1, 3) := by decide +kernel
theorem dX5_putRings_27 : decode cX5_putRings 27 = .ok (.goto (-25), 3) := by decide +kernel
