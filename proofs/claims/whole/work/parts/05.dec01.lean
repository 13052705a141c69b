theorem dX2_takeNumber_16 : decode cX2_takeNumber 16 = .ok (.lstore_n 2, 1) := by decide +kernel
theorem dX2_takeNumber_17 : decode cX2_takeNumber 17 = .ok (.aload_n 0, 1) := by decide +kernel
theorem dX2_takeNumber_18 : decode cX2_takeNumber 18 = .ok (.dup, 1) := by decide +kernel
theorem dX2_takeNumber_19 : decode cX2_takeNumber 19 = .ok (.getfield 43, 3) := by decide +kernel
theorem dX2_takeNumber_22 : decode cX2_takeNumber 22 = .ok (.iload_n 1, 1) := by decide +kernel
theorem dX2_takeNumber_23 : decode cX2_takeNumber 23 = .ok (.iadd, 1) := by decide +kernel
theorem dX2_takeNumber_24 : decode cX2_takeNumber 24 = .ok (.putfield 43, 3) := by decide +kernel
theorem dX2_takeNumber_27 : decode cX2_takeNumber 27 = .ok (.lload_n 2, 1) := by decide +kernel
theorem dX2_takeNumber_28 : decode cX2_takeNumber 28 = .ok (.lreturn, 1) := by decide +kernel
theorem dX2_takeShape_0 : decode cX2_takeShape 0 = .ok (.aload_n 0, 1) := by decide +kernel
theorem dX2_takeShape_1 : decode cX2_takeShape 1 = .ok (.invokevirtual 93, 3) := by decide +kernel
theorem dX2_takeShape_4 : decode cX2_takeShape 4 = .ok (.ifCond .eq 11, 3) := by decide +kernel
theorem dX2_takeShape_7 : decode cX2_takeShape 7 = .ok (.aload_n 0, 1) := by decide +kernel
theorem dX2_takeShape_8 : decode cX2_takeShape 8 = .ok (.iconst 4, 1) := by decide +kernel
theorem dX2_takeShape_9 : decode cX2_takeShape 9 = .ok (.invokevirtual 96, 3) := by decide +kernel
theorem dX2_takeShape_12 : decode cX2_takeShape 12 = .ok (.ifCond .ne 5, 3) := by decide +kernel
theorem dX2_takeShape_15 : decode cX2_takeShape 15 = .ok (.iconst 0, 1) := by decide +kernel
theorem dX2_takeShape_16 : decode cX2_takeShape 16 = .ok (.ireturn, 1) := by decide +kernel
theorem dX2_takeShape_17 : decode cX2_takeShape 17 = .ok (.aload_n 0, 1) := by decide +kernel
theorem dX2_takeShape_18 : decode cX2_takeShape 18 = .ok (.getfield 43, 3) := by decide +kernel
theorem dX2_takeShape_21 : decode cX2_takeShape 21 = .ok (.istore_n 2, 1) := by decide +kernel
theorem dX2_takeShape_22 : decode cX2_takeShape 22 = .ok (.aload_n 0, 1) := by decide +kernel
theorem dX2_takeShape_23 : decode cX2_takeShape 23 = .ok (.iconst 4, 1) := by decide +kernel
theorem dX2_takeShape_24 : decode cX2_takeShape 24 = .ok (.invokevirtual 99, 3) := by decide +kernel
theorem dX2_takeShape_27 : decode cX2_takeShape 27 = .ok (.l2i, 1) := by decide +kernel
theorem dX2_takeShape_28 : decode cX2_takeShape 28 = .ok (.istore_n 3, 1) := by decide +kernel
theorem dX2_takeShape_29 : decode cX2_takeShape 29 = .ok (.iload_n 3, 1) := by decide +kernel
theorem dX2_takeShape_30 : decode cX2_takeShape 30 = .ok (.invokestatic 103, 3) := by decide +kernel
theorem dX2_takeShape_33 : decode cX2_takeShape 33 = .ok (.istore 4, 2) := by decide +kernel
theorem dX2_takeShape_35 : decode cX2_takeShape 35 = .ok (.iload 4, 2) := by decide +kernel
theorem dX2_takeShape_37 : decode cX2_takeShape 37 = .ok (.ifCond .eq 13, 3) := by decide +kernel
theorem dX2_takeShape_40 : decode cX2_takeShape 40 = .ok (.iload_n 1, 1) := by decide +kernel
theorem dX2_takeShape_41 : decode cX2_takeShape 41 = .ok (.ifCond .eq 16, 3) := by decide +kernel
theorem dX2_takeShape_44 : decode cX2_takeShape 44 = .ok (.iload_n 1, 1) := by decide +kernel
theorem dX2_takeShape_45 : decode cX2_takeShape 45 = .ok (.iload 4, 2) := by decide +kernel
theorem dX2_takeShape_47 : decode cX2_takeShape 47 = .ok (.if_icmp .eq 10, 3) := by decide +kernel
theorem dX2_takeShape_50 : decode cX2_takeShape 50 = .ok (.aload_n 0, 1) := by decide +kernel
theorem dX2_takeShape_51 : decode cX2_takeShape 51 = .ok (.iconst 2, 1) := by decide +kernel
theorem dX2_takeShape_52 : decode cX2_takeShape 52 = .ok (.iload_n 2, 1) := by decide +kernel
theorem dX2_takeShape_53 : decode cX2_takeShape 53 = .ok (.invokevirtual 56, 3) := by decide +kernel
theorem dX2_takeShape_56 : decode cX2_takeShape 56 = .ok (.ireturn, 1) := by decide +kernel
theorem dX2_takeShape_57 : decode cX2_takeShape 57 = .ok (.iload_n 3, 1) := by decide +kernel
theorem dX2_takeShape_58 : decode cX2_takeShape 58 = .ok (.invokestatic 107, 3) := by decide +kernel
theorem dX2_takeShape_61 : decode cX2_takeShape 61 = .ok (.ifCond .eq 11, 3) := by decide +kernel
theorem dX2_takeShape_64 : decode cX2_takeShape 64 = .ok (.aload_n 0, 1) := by decide +kernel
theorem dX2_takeShape_65 : decode cX2_takeShape 65 = .ok (.bipush 9, 2) := by decide +kernel
theorem dX2_takeShape_67 : decode cX2_takeShape 67 = .ok (.iload_n 2, 1) := by decide +kernel
theorem dX2_takeShape_68 : decode cX2_takeShape 68 = .ok (.invokevirtual 56, 3) := by decide +kernel
theorem dX2_takeShape_71 : decode cX2_takeShape 71 = .ok (.ireturn, 1) := by decide +kernel
theorem dX2_takeShape_72 : decode cX2_takeShape 72 = .ok (.iload 4, 2) := by decide +kernel
theorem dX2_takeShape_74 : decode cX2_takeShape 74 = .ok (.bipush 7, 2) := by decide +kernel
theorem dX2_takeShape_76 : decode cX2_takeShape 76 = .ok (.if_icmp .ne 20, 3) := by decide +kernel
theorem dX2_takeShape_79 : decode cX2_takeShape 79 = .ok (.aload_n 0, 1) := by decide +kernel
theorem dX2_takeShape_80 : decode cX2_takeShape 80 = .ok (.invokevirtual 110, 3) := by decide +kernel
theorem dX2_takeShape_83 : decode cX2_takeShape 83 = .ok (.bipush 50, 2) := by decide +kernel
theorem dX2_takeShape_85 : decode cX2_takeShape 85 = .ok (.if_icmp .lt 11, 3) := by decide +kernel
theorem dX2_takeShape_88 : decode cX2_takeShape 88 = .ok (.aload_n 0, 1) := by decide +kernel
theorem dX2_takeShape_89 : decode cX2_takeShape 89 = .ok (.bipush 6, 2) := by decide +kernel
theorem dX2_takeShape_91 : decode cX2_takeShape 91 = .ok (.iload_n 2, 1) := by decide +kernel
theorem dX2_takeShape_92 : decode cX2_takeShape 92 = .ok (.invokevirtual 56, 3) := by decide +kernel
theorem dX2_takeShape_95 : decode cX2_takeShape 95 = .ok (.ireturn, 1) := by decide +kernel
theorem dX2_takeShape_96 : decode cX2_takeShape 96 = .ok (.iload_n 3, 1) := by decide +kernel
theorem dX2_takeShape_97 : decode cX2_takeShape 97 = .ok (.invokestatic 113, 3) := by decide +kernel
theorem dX2_takeShape_100 : decode cX2_takeShape 100 = .ok (.ifCond .eq 12, 3) := by decide +kernel
theorem dX2_takeShape_103 : decode cX2_takeShape 103 = .ok (.aload_n 0, 1) := by decide +kernel
theorem dX2_takeShape_104 : decode cX2_takeShape 104 = .ok (.invokevirtual 116, 3) := by decide +kernel
theorem dX2_takeShape_107 : decode cX2_takeShape 107 = .ok (.ifCond .ne 5, 3) := by decide +kernel
theorem dX2_takeShape_110 : decode cX2_takeShape 110 = .ok (.iconst 0, 1) := by decide +kernel
theorem dX2_takeShape_111 : decode cX2_takeShape 111 = .ok (.ireturn, 1) := by decide +kernel
theorem dX2_takeShape_112 : decode cX2_takeShape 112 = .ok (.aload_n 0, 1) := by decide +kernel
theorem dX2_takeShape_113 : decode cX2_takeShape 113 = .ok (.getfield 60, 3) := by decide +kernel
theorem dX2_takeShape_116 : decode cX2_takeShape 116 = .ok (.iconst 2, 1) := by decide +kernel
theorem dX2_takeShape_117 : decode cX2_takeShape 117 = .ok (.invokevirtual 119, 3) := by decide +kernel
theorem dX2_takeShape_120 : decode cX2_takeShape 120 = .ok (.ifCond .ne 14, 3) := by decide +kernel
theorem dX2_takeShape_123 : decode cX2_takeShape 123 = .ok (.aload_n 0, 1) := by decide +kernel
theorem dX2_takeShape_124 : decode cX2_takeShape 124 = .ok (.bipush 7, 2) := by decide +kernel
theorem dX2_takeShape_126 : decode cX2_takeShape 126 = .ok (.aload_n 0, 1) := by decide +kernel
theorem dX2_takeShape_127 : decode cX2_takeShape 127 = .ok (.getfield 43, 3) := by decide +kernel
theorem dX2_takeShape_130 : decode cX2_takeShape 130 = .ok (.invokevirtual 56, 3) := by decide +kernel
theorem dX2_takeShape_133 : decode cX2_takeShape 133 = .ok (.ireturn, 1) := by decide +kernel
theorem dX2_takeShape_134 : decode cX2_takeShape 134 = .ok (.aload_n 0, 1) := by decide +kernel
theorem dX2_takeShape_135 : decode cX2_takeShape 135 = .ok (.getfield 60, 3) := by decide +kernel
theorem dX2_takeShape_138 : decode cX2_takeShape 138 = .ok (.iload 4, 2) := by decide +kernel
theorem dX2_takeShape_140 : decode cX2_takeShape 140 = .ok (.invokevirtual 122, 3) := by decide +kernel
theorem dX2_takeShape_143 : decode cX2_takeShape 143 = .ok (.iload 4, 2) := by decide +kernel
theorem dX2_takeShape_145 : decode cX2_takeShape 145 = .ok (.iconst 1, 1) := by decide +kernel
theorem dX2_takeShape_146 : decode cX2_takeShape 146 = .ok (.if_icmp .ne 10, 3) := by decide +kernel
theorem dX2_takeShape_149 : decode cX2_takeShape 149 = .ok (.aload_n 0, 1) := by decide +kernel
theorem dX2_takeShape_150 : decode cX2_takeShape 150 = .ok (.invokevirtual 126, 3) := by decide +kernel
theorem dX2_takeShape_153 : decode cX2_takeShape 153 = .ok (.goto 9, 3) := by decide +kernel
theorem dX2_takeShape_156 : decode cX2_takeShape 156 = .ok (.aload_n 0, 1) := by decide +kernel
theorem dX2_takeShape_157 : decode cX2_takeShape 157 = .ok (.iload 4, 2) := by decide +kernel
theorem dX2_takeShape_159 : decode cX2_takeShape 159 = .ok (.invokevirtual 129, 3) := by decide +kernel
theorem dX2_takeShape_162 : decode cX2_takeShape 162 = .ok (.ireturn, 1) := by decide +kernel
theorem dX2_collectionsAround_0 : decode cX2_collectionsAround 0 = .ok (.aload_n 0, 1) := by decide +kernel
theorem dX2_collectionsAround_1 : decode cX2_collectionsAround 1 = .ok (.getfield 33, 3) := by decide +kernel
theorem dX2_collectionsAround_4 : decode cX2_collectionsAround 4 = .ok (.iconst 1, 1) := by decide +kernel
theorem dX2_collectionsAround_5 : decode cX2_collectionsAround 5 = .ok (.isub, 1) := by decide +kernel
theorem dX2_collectionsAround_6 : decode cX2_collectionsAround 6 = .ok (.ireturn, 1) := by decide +kernel
theorem dX2_takeOrder_0 : decode cX2_takeOrder 0 = .ok (.aload_n 0, 1) := by decide +kernel
theorem dX2_takeOrder_1 : decode cX2_takeOrder 1 = .ok (.iconst 1, 1) := by decide +kernel
theorem dX2_takeOrder_2 : decode cX2_takeOrder 2 = .ok (.invokevirtual 96, 3) := by decide +kernel
theorem dX2_takeOrder_5 : decode cX2_takeOrder 5 = .ok (.ifCond .ne 5, 3) := by decide +kernel
theorem dX2_takeOrder_8 : decode cX2_takeOrder 8 = .ok (.iconst 0, 1) := by decide +kernel
theorem dX2_takeOrder_9 : decode cX2_takeOrder 9 = .ok (.ireturn, 1) := by decide +kernel
theorem dX2_takeOrder_10 : decode cX2_takeOrder 10 = .ok (.aload_n 0, 1) := by decide +kernel
theorem dX2_takeOrder_11 : decode cX2_takeOrder 11 = .ok (.getfield 46, 3) := by decide +kernel
theorem dX2_takeOrder_14 : decode cX2_takeOrder 14 = .ok (.aload_n 0, 1) := by decide +kernel
theorem dX2_takeOrder_15 : decode cX2_takeOrder 15 = .ok (.getfield 43, 3) := by decide +kernel
theorem dX2_takeOrder_18 : decode cX2_takeOrder 18 = .ok (.invokevirtual 132, 3) := by decide +kernel
theorem dX2_takeOrder_21 : decode cX2_takeOrder 21 = .ok (.istore_n 1, 1) := by decide +kernel
theorem dX2_takeOrder_22 : decode cX2_takeOrder 22 = .ok (.iload_n 1, 1) := by decide +kernel
theorem dX2_takeOrder_23 : decode cX2_takeOrder 23 = .ok (.iconst 1, 1) := by decide +kernel
theorem dX2_takeOrder_24 : decode cX2_takeOrder 24 = .ok (.if_icmp .le 13, 3) := by decide +kernel
theorem dX2_takeOrder_27 : decode cX2_takeOrder 27 = .ok (.aload_n 0, 1) := by decide +kernel
theorem dX2_takeOrder_28 : decode cX2_takeOrder 28 = .ok (.iconst 1, 1) := by decide +kernel
theorem dX2_takeOrder_29 : decode cX2_takeOrder 29 = .ok (.aload_n 0, 1) := by decide +kernel
theorem dX2_takeOrder_30 : decode cX2_takeOrder 30 = .ok (.getfield 43, 3) := by decide +kernel
theorem dX2_takeOrder_33 : decode cX2_takeOrder 33 = .ok (.invokevirtual 56, 3) := by decide +kernel
theorem dX2_takeOrder_36 : decode cX2_takeOrder 36 = .ok (.ireturn, 1) := by decide +kernel
theorem dX2_takeOrder_37 : decode cX2_takeOrder 37 = .ok (.aload_n 0, 1) := by decide +kernel
theorem dX2_takeOrder_38 : decode cX2_takeOrder 38 = .ok (.iload_n 1, 1) := by decide +kernel
theorem dX2_takeOrder_39 : decode cX2_takeOrder 39 = .ok (.iconst 1, 1) := by decide +kernel
theorem dX2_takeOrder_40 : decode cX2_takeOrder 40 = .ok (.if_icmp .ne 7, 3) := by decide +kernel
theorem dX2_takeOrder_43 : decode cX2_takeOrder 43 = .ok (.iconst 1, 1) := by decide +kernel
theorem dX2_takeOrder_44 : decode cX2_takeOrder 44 = .ok (.goto 4, 3) := by decide +kernel
theorem dX2_takeOrder_47 : decode cX2_takeOrder 47 = .ok (.iconst 0, 1) := by decide +kernel
theorem dX2_takeOrder_48 : decode cX2_takeOrder 48 = .ok (.putfield 85, 3) := by decide +kernel
theorem dX2_takeOrder_51 : decode cX2_takeOrder 51 = .ok (.aload_n 0, 1) := by decide +kernel
theorem dX2_takeOrder_52 : decode cX2_takeOrder 52 = .ok (.dup, 1) := by decide +kernel
theorem dX2_takeOrder_53 : decode cX2_takeOrder 53 = .ok (.getfield 43, 3) := by decide +kernel
theorem dX2_takeOrder_56 : decode cX2_takeOrder 56 = .ok (.iconst 1, 1) := by decide +kernel
theorem dX2_takeOrder_57 : decode cX2_takeOrder 57 = .ok (.iadd, 1) := by decide +kernel
theorem dX2_takeOrder_58 : decode cX2_takeOrder 58 = .ok (.putfield 43, 3) := by decide +kernel
theorem dX2_takeOrder_61 : decode cX2_takeOrder 61 = .ok (.iconst 1, 1) := by decide +kernel
theorem dX2_takeOrder_62 : decode cX2_takeOrder 62 = .ok (.ireturn, 1) := by decide +kernel
theorem dX2_passMark_0 : decode cX2_passMark 0 = .ok (.aload_n 0, 1) := by decide +kernel
theorem dX2_passMark_1 : decode cX2_passMark 1 = .ok (.iconst 4, 1) := by decide +kernel
theorem dX2_passMark_2 : decode cX2_passMark 2 = .ok (.invokevirtual 96, 3) := by decide +kernel
theorem dX2_passMark_5 : decode cX2_passMark 5 = .ok (.ifCond .ne 5, 3) := by decide +kernel
theorem dX2_passMark_8 : decode cX2_passMark 8 = .ok (.iconst 0, 1) := by decide +kernel
theorem dX2_passMark_9 : decode cX2_passMark 9 = .ok (.ireturn, 1) := by decide +kernel
theorem dX2_passMark_10 : decode cX2_passMark 10 = .ok (.aload_n 0, 1) := by decide +kernel
theorem dX2_passMark_11 : decode cX2_passMark 11 = .ok (.dup, 1) := by decide +kernel
theorem dX2_passMark_12 : decode cX2_passMark 12 = .ok (.getfield 43, 3) := by decide +kernel
theorem dX2_passMark_15 : decode cX2_passMark 15 = .ok (.iconst 4, 1) := by decide +kernel
theorem dX2_passMark_16 : decode cX2_passMark 16 = .ok (.iadd, 1) := by decide +kernel
theorem dX2_passMark_17 : decode cX2_passMark 17 = .ok (.putfield 43, 3) := by decide +kernel
theorem dX2_passMark_20 : decode cX2_passMark 20 = .ok (.iconst 1, 1) := by decide +kernel
theorem dX2_passMark_21 : decode cX2_passMark 21 = .ok (.ireturn, 1) := by decide +kernel
theorem dX2_takePoint_0 : decode cX2_takePoint 0 = .ok (.aload_n 0, 1) := by decide +kernel
theorem dX2_takePoint_1 : decode cX2_takePoint 1 = .ok (.invokevirtual 135, 3) := by decide +kernel
theorem dX2_takePoint_4 : decode cX2_takePoint 4 = .ok (.ifCond .eq 25, 3) := by decide +kernel
theorem dX2_takePoint_7 : decode cX2_takePoint 7 = .ok (.aload_n 0, 1) := by decide +kernel
theorem dX2_takePoint_8 : decode cX2_takePoint 8 = .ok (.dup, 1) := by decide +kernel
theorem dX2_takePoint_9 : decode cX2_takePoint 9 = .ok (.getfield 43, 3) := by decide +kernel
theorem dX2_takePoint_12 : decode cX2_takePoint 12 = .ok (.bipush 16, 2) := by decide +kernel
theorem dX2_takePoint_14 : decode cX2_takePoint 14 = .ok (.iadd, 1) := by decide +kernel
theorem dX2_takePoint_15 : decode cX2_takePoint 15 = .ok (.putfield 43, 3) := by decide +kernel
theorem dX2_takePoint_18 : decode cX2_takePoint 18 = .ok (.aload_n 0, 1) := by decide +kernel
theorem dX2_takePoint_19 : decode cX2_takePoint 19 = .ok (.getfield 60, 3) := by decide +kernel
theorem dX2_takePoint_22 : decode cX2_takePoint 22 = .ok (.iconst 0, 1) := by decide +kernel
theorem dX2_takePoint_23 : decode cX2_takePoint 23 = .ok (.invokevirtual 122, 3) := by decide +kernel
theorem dX2_takePoint_26 : decode cX2_takePoint 26 = .ok (.goto 18, 3) := by decide +kernel
theorem dX2_takePoint_29 : decode cX2_takePoint 29 = .ok (.aload_n 0, 1) := by decide +kernel
theorem dX2_takePoint_30 : decode cX2_takePoint 30 = .ok (.getfield 60, 3) := by decide +kernel
theorem dX2_takePoint_33 : decode cX2_takePoint 33 = .ok (.iconst 1, 1) := by decide +kernel
theorem dX2_takePoint_34 : decode cX2_takePoint 34 = .ok (.invokevirtual 122, 3) := by decide +kernel
theorem dX2_takePoint_37 : decode cX2_takePoint 37 = .ok (.aload_n 0, 1) := by decide +kernel
theorem dX2_takePoint_38 : decode cX2_takePoint 38 = .ok (.lconst 1, 1) := by decide +kernel
theorem dX2_takePoint_39 : decode cX2_takePoint 39 = .ok (.bipush 9, 2) := by decide +kernel
theorem dX2_takePoint_41 : decode cX2_takePoint 41 = .ok (.invokevirtual 71, 3) := by decide +kernel
theorem dX2_takePoint_44 : decode cX2_takePoint 44 = .ok (.iconst 1, 1) := by decide +kernel
theorem dX2_takePoint_45 : decode cX2_takePoint 45 = .ok (.ireturn, 1) := by decide +kernel
theorem dX2_isEmptyPoint_0 : decode cX2_isEmptyPoint 0 = .ok (.aload_n 0, 1) := by decide +kernel
theorem dX2_isEmptyPoint_1 : decode cX2_isEmptyPoint 1 = .ok (.getfield 46, 3) := by decide +kernel
theorem dX2_isEmptyPoint_4 : decode cX2_isEmptyPoint 4 = .ok (.invokevirtual 50, 3) := by decide +kernel
theorem dX2_isEmptyPoint_7 : decode cX2_isEmptyPoint 7 = .ok (.aload_n 0, 1) := by decide +kernel
theorem dX2_isEmptyPoint_8 : decode cX2_isEmptyPoint 8 = .ok (.getfield 43, 3) := by decide +kernel
theorem dX2_isEmptyPoint_11 : decode cX2_isEmptyPoint 11 = .ok (.isub, 1) := by decide +kernel
theorem dX2_isEmptyPoint_12 : decode cX2_isEmptyPoint 12 = .ok (.bipush 16, 2) := by decide +kernel
theorem dX2_isEmptyPoint_14 : decode cX2_isEmptyPoint 14 = .ok (.if_icmp .lt 56, 3) := by decide +kernel
theorem dX2_isEmptyPoint_17 : decode cX2_isEmptyPoint 17 = .ok (.aload_n 0, 1) := by decide +kernel
theorem dX2_isEmptyPoint_18 : decode cX2_isEmptyPoint 18 = .ok (.getfield 46, 3) := by decide +kernel
theorem dX2_isEmptyPoint_21 : decode cX2_isEmptyPoint 21 = .ok (.aload_n 0, 1) := by decide +kernel
theorem dX2_isEmptyPoint_22 : decode cX2_isEmptyPoint 22 = .ok (.getfield 43, 3) := by decide +kernel
theorem dX2_isEmptyPoint_25 : decode cX2_isEmptyPoint 25 = .ok (.bipush 8, 2) := by decide +kernel
theorem dX2_isEmptyPoint_27 : decode cX2_isEmptyPoint 27 = .ok (.aload_n 0, 1) := by decide +kernel
theorem dX2_isEmptyPoint_28 : decode cX2_isEmptyPoint 28 = .ok (.getfield 85, 3) := by decide +kernel
theorem dX2_isEmptyPoint_31 : decode cX2_isEmptyPoint 31 = .ok (.invokevirtual 89, 3) := by decide +kernel
theorem dX2_isEmptyPoint_34 : decode cX2_isEmptyPoint 34 = .ok (.invokestatic 138, 3) := by decide +kernel
theorem dX2_isEmptyPoint_37 : decode cX2_isEmptyPoint 37 = .ok (.ifCond .eq 33, 3) := by decide +kernel
theorem dX2_isEmptyPoint_40 : decode cX2_isEmptyPoint 40 = .ok (.aload_n 0, 1) := by decide +kernel
theorem dX2_isEmptyPoint_41 : decode cX2_isEmptyPoint 41 = .ok (.getfield 46, 3) := by decide +kernel
theorem dX2_isEmptyPoint_44 : decode cX2_isEmptyPoint 44 = .ok (.aload_n 0, 1) := by decide +kernel
theorem dX2_isEmptyPoint_45 : decode cX2_isEmptyPoint 45 = .ok (.getfield 43, 3) := by decide +kernel
theorem dX2_isEmptyPoint_48 : decode cX2_isEmptyPoint 48 = .ok (.bipush 8, 2) := by decide +kernel
theorem dX2_isEmptyPoint_50 : decode cX2_isEmptyPoint 50 = .ok (.iadd, 1) := by decide +kernel
theorem dX2_isEmptyPoint_51 : decode cX2_isEmptyPoint 51 = .ok (.bipush 8, 2) := by decide +kernel
theorem dX2_isEmptyPoint_53 : decode cX2_isEmptyPoint 53 = .ok (.aload_n 0, 1) := by decide +kernel
theorem dX2_isEmptyPoint_54 : decode cX2_isEmptyPoint 54 = .ok (.getfield 85, 3) := by decide +kernel
theorem dX2_isEmptyPoint_57 : decode cX2_isEmptyPoint 57 = .ok (.invokevirtual 89, 3) := by decide +kernel
theorem dX2_isEmptyPoint_60 : decode cX2_isEmptyPoint 60 = .ok (.invokestatic 138, 3) := by decide +kernel
theorem dX2_isEmptyPoint_63 : decode cX2_isEmptyPoint 63 = .ok (.ifCond .eq 7, 3) := by decide +kernel
theorem dX2_isEmptyPoint_66 : decode cX2_isEmptyPoint 66 = .ok (.iconst 1, 1) := by decide +kernel
theorem dX2_isEmptyPoint_67 : decode cX2_isEmptyPoint 67 = .ok (.goto 4, 3) := by decide +kernel
theorem dX2_isEmptyPoint_70 : decode cX2_isEmptyPoint 70 = .ok (.iconst 0, 1) := by decide +kernel
theorem dX2_isEmptyPoint_71 : decode cX2_isEmptyPoint 71 = .ok (.ireturn, 1) := by decide +kernel
theorem dX2_takeCount_0 : decode cX2_takeCount 0 = .ok (.aload_n 0, 1) := by decide +kernel
theorem dX2_takeCount_1 : decode cX2_takeCount 1 = .ok (.iconst 4, 1) := by decide +kernel
theorem dX2_takeCount_2 : decode cX2_takeCount 2 = .ok (.invokevirtual 96, 3) := by decide +kernel
theorem dX2_takeCount_5 : decode cX2_takeCount 5 = .ok (.ifCond .ne 5, 3) := by decide +kernel
theorem dX2_takeCount_8 : decode cX2_takeCount 8 = .ok (.iconst 0, 1) := by decide +kernel
theorem dX2_takeCount_9 : decode cX2_takeCount 9 = .ok (.ireturn, 1) := by decide +kernel
theorem dX2_takeCount_10 : decode cX2_takeCount 10 = .ok (.aload_n 0, 1) := by decide +kernel
theorem dX2_takeCount_11 : decode cX2_takeCount 11 = .ok (.iconst 4, 1) := by decide +kernel
theorem dX2_takeCount_12 : decode cX2_takeCount 12 = .ok (.invokevirtual 99, 3) := by decide +kernel
theorem dX2_takeCount_15 : decode cX2_takeCount 15 = .ok (.lstore_n 2, 1) := by decide +kernel
theorem dX2_takeCount_16 : decode cX2_takeCount 16 = .ok (.aload_n 0, 1) := by decide +kernel
theorem dX2_takeCount_17 : decode cX2_takeCount 17 = .ok (.getfield 60, 3) := by decide +kernel
theorem dX2_takeCount_20 : decode cX2_takeCount 20 = .ok (.lload_n 2, 1) := by decide +kernel
theorem dX2_takeCount_21 : decode cX2_takeCount 21 = .ok (.l2i, 1) := by decide +kernel
theorem dX2_takeCount_22 : decode cX2_takeCount 22 = .ok (.invokevirtual 122, 3) := by decide +kernel
theorem dX2_takeCount_25 : decode cX2_takeCount 25 = .ok (.aload_n 0, 1) := by decide +kernel
theorem dX2_takeCount_26 : decode cX2_takeCount 26 = .ok (.lload_n 2, 1) := by decide +kernel
theorem dX2_takeCount_27 : decode cX2_takeCount 27 = .ok (.iload_n 1, 1) := by decide +kernel
theorem dX2_takeCount_28 : decode cX2_takeCount 28 = .ok (.invokestatic 144, 3) := by decide +kernel
theorem dX2_takeCount_31 : decode cX2_takeCount 31 = .ok (.invokevirtual 71, 3) := by decide +kernel
theorem dX2_takeCount_34 : decode cX2_takeCount 34 = .ok (.iconst 1, 1) := by decide +kernel
theorem dX2_takeCount_35 : decode cX2_takeCount 35 = .ok (.ireturn, 1) := by decide +kernel
theorem dX2_itemsOf_0 : decode cX2_itemsOf 0 = .ok (.iload_n 0, 1) := by decide +kernel
theorem dX2_itemsOf_1 : decode cX2_itemsOf 1 = .ok (.lookupswitch 43 #[(2, 35), (3, 38), (7, 41)], 35) := by decide +kernel
theorem dX2_itemsOf_36 : decode cX2_itemsOf 36 = .ok (.bipush 9, 2) := by decide +kernel
theorem dX2_itemsOf_38 : decode cX2_itemsOf 38 = .ok (.ireturn, 1) := by decide +kernel
theorem dX2_itemsOf_39 : decode cX2_itemsOf 39 = .ok (.bipush 8, 2) := by decide +kernel
theorem dX2_itemsOf_41 : decode cX2_itemsOf 41 = .ok (.ireturn, 1) := by decide +kernel
theorem dX2_itemsOf_42 : decode cX2_itemsOf 42 = .ok (.iconst 0, 1) := by decide +kernel
theorem dX2_itemsOf_43 : decode cX2_itemsOf 43 = .ok (.ireturn, 1) := by decide +kernel
theorem dX2_itemsOf_44 : decode cX2_itemsOf 44 = .ok (.iload_n 0, 1) := by decide +kernel
theorem dX2_itemsOf_45 : decode cX2_itemsOf 45 = .ok (.iconst 3, 1) := by decide +kernel
theorem dX2_itemsOf_46 : decode cX2_itemsOf 46 = .ok (.isub, 1) := by decide +kernel
theorem dX2_itemsOf_47 : decode cX2_itemsOf 47 = .ok (.ireturn, 1) := by decide +kernel
theorem dX2_takeRing_0 : decode cX2_takeRing 0 = .ok (.aload_n 0, 1) := by decide +kernel
theorem dX2_takeRing_1 : decode cX2_takeRing 1 = .ok (.getfield 60, 3) := by decide +kernel
theorem dX2_takeRing_4 : decode cX2_takeRing 4 = .ok (.iconst 1, 1) := by decide +kernel
theorem dX2_takeRing_5 : decode cX2_takeRing 5 = .ok (.invokevirtual 119, 3) := by decide +kernel
theorem dX2_takeRing_8 : decode cX2_takeRing 8 = .ok (.ifCond .ne 14, 3) := by decide +kernel
theorem dX2_takeRing_11 : decode cX2_takeRing 11 = .ok (.aload_n 0, 1) := by decide +kernel
theorem dX2_takeRing_12 : decode cX2_takeRing 12 = .ok (.bipush 7, 2) := by decide +kernel
theorem dX2_takeRing_14 : decode cX2_takeRing 14 = .ok (.aload_n 0, 1) := by decide +kernel
theorem dX2_takeRing_15 : decode cX2_takeRing 15 = .ok (.getfield 43, 3) := by decide +kernel
theorem dX2_takeRing_18 : decode cX2_takeRing 18 = .ok (.invokevirtual 56, 3) := by decide +kernel
theorem dX2_takeRing_21 : decode cX2_takeRing 21 = .ok (.ireturn, 1) := by decide +kernel
theorem dX2_takeRing_22 : decode cX2_takeRing 22 = .ok (.aload_n 0, 1) := by decide +kernel
theorem dX2_takeRing_23 : decode cX2_takeRing 23 = .ok (.iconst 4, 1) := by decide +kernel
theorem dX2_takeRing_24 : decode cX2_takeRing 24 = .ok (.invokevirtual 96, 3) := by decide +kernel
theorem dX2_takeRing_27 : decode cX2_takeRing 27 = .ok (.ifCond .ne 5, 3) := by decide +kernel
theorem dX2_takeRing_30 : decode cX2_takeRing 30 = .ok (.iconst 0, 1) := by decide +kernel
theorem dX2_takeRing_31 : decode cX2_takeRing 31 = .ok (.ireturn, 1) := by decide +kernel
theorem dX2_takeRing_32 : decode cX2_takeRing 32 = .ok (.aload_n 0, 1) := by decide +kernel
theorem dX2_takeRing_33 : decode cX2_takeRing 33 = .ok (.getfield 43, 3) := by decide +kernel
theorem dX2_takeRing_36 : decode cX2_takeRing 36 = .ok (.istore_n 1, 1) := by decide +kernel
theorem dX2_takeRing_37 : decode cX2_takeRing 37 = .ok (.aload_n 0, 1) := by decide +kernel
theorem dX2_takeRing_38 : decode cX2_takeRing 38 = .ok (.iconst 4, 1) := by decide +kernel
theorem dX2_takeRing_39 : decode cX2_takeRing 39 = .ok (.invokevirtual 99, 3) := by decide +kernel
theorem dX2_takeRing_42 : decode cX2_takeRing 42 = .ok (.lstore_n 2, 1) := by decide +kernel
theorem dX2_takeRing_43 : decode cX2_takeRing 43 = .ok (.lload_n 2, 1) := by decide +kernel
theorem dX2_takeRing_44 : decode cX2_takeRing 44 = .ok (.lconst 0, 1) := by decide +kernel
theorem dX2_takeRing_45 : decode cX2_takeRing 45 = .ok (.lcmp, 1) := by decide +kernel
theorem dX2_takeRing_46 : decode cX2_takeRing 46 = .ok (.ifCond .ne 10, 3) := by decide +kernel
theorem dX2_takeRing_49 : decode cX2_takeRing 49 = .ok (.aload_n 0, 1) := by decide +kernel
theorem dX2_takeRing_50 : decode cX2_takeRing 50 = .ok (.iconst 4, 1) := by decide +kernel
theorem dX2_takeRing_51 : decode cX2_takeRing 51 = .ok (.iload_n 1, 1) := by decide +kernel
theorem dX2_takeRing_52 : decode cX2_takeRing 52 = .ok (.invokevirtual 56, 3) := by decide +kernel
theorem dX2_takeRing_55 : decode cX2_takeRing 55 = .ok (.ireturn, 1) := by decide +kernel
theorem dX2_takeRing_56 : decode cX2_takeRing 56 = .ok (.aload_n 0, 1) := by decide +kernel
theorem dX2_takeRing_57 : decode cX2_takeRing 57 = .ok (.getfield 60, 3) := by decide +kernel
theorem dX2_takeRing_60 : decode cX2_takeRing 60 = .ok (.lload_n 2, 1) := by decide +kernel
theorem dX2_takeRing_61 : decode cX2_takeRing 61 = .ok (.l2i, 1) := by decide +kernel
theorem dX2_takeRing_62 : decode cX2_takeRing 62 = .ok (.invokevirtual 122, 3) := by decide +kernel
theorem dX2_takeRing_65 : decode cX2_takeRing 65 = .ok (.aload_n 0, 1) := by decide +kernel
theorem dX2_takeRing_66 : decode cX2_takeRing 66 = .ok (.lload_n 2, 1) := by decide +kernel
theorem dX2_takeRing_67 : decode cX2_takeRing 67 = .ok (.bipush 9, 2) := by decide +kernel
theorem dX2_takeRing_69 : decode cX2_takeRing 69 = .ok (.invokevirtual 71, 3) := by decide +kernel
theorem dX2_takeRing_72 : decode cX2_takeRing 72 = .ok (.iconst 1, 1) := by decide +kernel
theorem dX2_takeRing_73 : decode cX2_takeRing 73 = .ok (.ireturn, 1) := by decide +kernel
theorem dX2_takeCoordinate_0 : decode cX2_takeCoordinate 0 = .ok (.aload_n 0, 1) := by decide +kernel
theorem dX2_takeCoordinate_1 : decode cX2_takeCoordinate 1 = .ok (.getfield 60, 3) := by decide +kernel
theorem dX2_takeCoordinate_4 : decode cX2_takeCoordinate 4 = .ok (.invokevirtual 147, 3) := by decide +kernel
theorem dX2_takeCoordinate_7 : decode cX2_takeCoordinate 7 = .ok (.ifCond .ne 14, 3) := by decide +kernel
theorem dX2_takeCoordinate_10 : decode cX2_takeCoordinate 10 = .ok (.aload_n 0, 1) := by decide +kernel
theorem dX2_takeCoordinate_11 : decode cX2_takeCoordinate 11 = .ok (.bipush 7, 2) := by decide +kernel
theorem dX2_takeCoordinate_13 : decode cX2_takeCoordinate 13 = .ok (.aload_n 0, 1) := by decide +kernel
theorem dX2_takeCoordinate_14 : decode cX2_takeCoordinate 14 = .ok (.getfield 43, 3) := by decide +kernel
theorem dX2_takeCoordinate_17 : decode cX2_takeCoordinate 17 = .ok (.invokevirtual 56, 3) := by decide +kernel
theorem dX2_takeCoordinate_20 : decode cX2_takeCoordinate 20 = .ok (.ireturn, 1) := by decide +kernel
theorem dX2_takeCoordinate_21 : decode cX2_takeCoordinate 21 = .ok (.aload_n 0, 1) := by decide +kernel
theorem dX2_takeCoordinate_22 : decode cX2_takeCoordinate 22 = .ok (.invokevirtual 150, 3) := by decide +kernel
theorem dX2_takeCoordinate_25 : decode cX2_takeCoordinate 25 = .ok (.ifCond .eq 14, 3) := by decide +kernel
theorem dX2_takeCoordinate_28 : decode cX2_takeCoordinate 28 = .ok (.aload_n 0, 1) := by decide +kernel
theorem dX2_takeCoordinate_29 : decode cX2_takeCoordinate 29 = .ok (.invokevirtual 150, 3) := by decide +kernel
theorem dX2_takeCoordinate_32 : decode cX2_takeCoordinate 32 = .ok (.ifCond .eq 7, 3) := by decide +kernel
theorem dX2_takeCoordinate_35 : decode cX2_takeCoordinate 35 = .ok (.iconst 1, 1) := by decide +kernel
theorem dX2_takeCoordinate_36 : decode cX2_takeCoordinate 36 = .ok (.goto 4, 3) := by decide +kernel
theorem dX2_takeCoordinate_39 : decode cX2_takeCoordinate 39 = .ok (.iconst 0, 1) := by decide +kernel
theorem dX2_takeCoordinate_40 : decode cX2_takeCoordinate 40 = .ok (.ireturn, 1) := by decide +kernel
theorem dX2_takeValue_0 : decode cX2_takeValue 0 = .ok (.aload_n 0, 1) := by decide +kernel
theorem dX2_takeValue_1 : decode cX2_takeValue 1 = .ok (.bipush 8, 2) := by decide +kernel
theorem dX2_takeValue_3 : decode cX2_takeValue 3 = .ok (.invokevirtual 96, 3) := by decide +kernel
theorem dX2_takeValue_6 : decode cX2_takeValue 6 = .ok (.ifCond .ne 5, 3) := by decide +kernel
theorem dX2_takeValue_9 : decode cX2_takeValue 9 = .ok (.iconst 0, 1) := by decide +kernel
theorem dX2_takeValue_10 : decode cX2_takeValue 10 = .ok (.ireturn, 1) := by decide +kernel
theorem dX2_takeValue_11 : decode cX2_takeValue 11 = .ok (.aload_n 0, 1) := by decide +kernel
theorem dX2_takeValue_12 : decode cX2_takeValue 12 = .ok (.getfield 43, 3) := by decide +kernel
theorem dX2_takeValue_15 : decode cX2_takeValue 15 = .ok (.istore_n 1, 1) := by decide +kernel
theorem dX2_takeValue_16 : decode cX2_takeValue 16 = .ok (.aload_n 0, 1) := by decide +kernel
theorem dX2_takeValue_17 : decode cX2_takeValue 17 = .ok (.bipush 8, 2) := by decide +kernel
theorem dX2_takeValue_19 : decode cX2_takeValue 19 = .ok (.invokevirtual 99, 3) := by decide +kernel
theorem dX2_takeValue_22 : decode cX2_takeValue 22 = .ok (.lstore_n 2, 1) := by decide +kernel
theorem dX2_takeValue_23 : decode cX2_takeValue 23 = .ok (.lload_n 2, 1) := by decide +kernel
theorem dX2_takeValue_24 : decode cX2_takeValue 24 = .ok (.invokestatic 153, 3) := by decide +kernel
theorem dX2_takeValue_27 : decode cX2_takeValue 27 = .ok (.ifCond .ne 10, 3) := by decide +kernel
theorem dX2_takeValue_30 : decode cX2_takeValue 30 = .ok (.aload_n 0, 1) := by decide +kernel
theorem dX2_takeValue_31 : decode cX2_takeValue 31 = .ok (.iconst 4, 1) := by decide +kernel
theorem dX2_takeValue_32 : decode cX2_takeValue 32 = .ok (.iload_n 1, 1) := by decide +kernel
theorem dX2_takeValue_33 : decode cX2_takeValue 33 = .ok (.invokevirtual 56, 3) := by decide +kernel
theorem dX2_takeValue_36 : decode cX2_takeValue 36 = .ok (.ireturn, 1) := by decide +kernel
theorem dX2_takeValue_37 : decode cX2_takeValue 37 = .ok (.lload_n 2, 1) := by decide +kernel
theorem dX2_takeValue_38 : decode cX2_takeValue 38 = .ok (.aload_n 0, 1) := by decide +kernel
theorem dX2_takeValue_39 : decode cX2_takeValue 39 = .ok (.getfield 19, 3) := by decide +kernel
theorem dX2_takeValue_42 : decode cX2_takeValue 42 = .ok (.invokestatic 156, 3) := by decide +kernel
theorem dX2_takeValue_45 : decode cX2_takeValue 45 = .ok (.lstore 4, 2) := by decide +kernel
theorem dX2_takeValue_47 : decode cX2_takeValue 47 = .ok (.lload 4, 2) := by decide +kernel
theorem dX2_takeValue_49 : decode cX2_takeValue 49 = .ok (.ldc2_w 160, 3) := by decide +kernel
theorem dX2_takeValue_52 : decode cX2_takeValue 52 = .ok (.lcmp, 1) := by decide +kernel
theorem dX2_takeValue_53 : decode cX2_takeValue 53 = .ok (.ifCond .lt 12, 3) := by decide +kernel
theorem dX2_takeValue_56 : decode cX2_takeValue 56 = .ok (.lload 4, 2) := by decide +kernel
theorem dX2_takeValue_58 : decode cX2_takeValue 58 = .ok (.ldc2_w 162, 3) := by decide +kernel
theorem dX2_takeValue_61 : decode cX2_takeValue 61 = .ok (.lcmp, 1) := by decide +kernel
theorem dX2_takeValue_62 : decode cX2_takeValue 62 = .ok (.ifCond .le 10, 3) := by decide +kernel
theorem dX2_takeValue_65 : decode cX2_takeValue 65 = .ok (.aload_n 0, 1) := by decide +kernel
theorem dX2_takeValue_66 : decode cX2_takeValue 66 = .ok (.iconst 5, 1) := by decide +kernel
theorem dX2_takeValue_67 : decode cX2_takeValue 67 = .ok (.iload_n 1, 1) := by decide +kernel
theorem dX2_takeValue_68 : decode cX2_takeValue 68 = .ok (.invokevirtual 56, 3) := by decide +kernel
theorem dX2_takeValue_71 : decode cX2_takeValue 71 = .ok (.ireturn, 1) := by decide +kernel
theorem dX2_takeValue_72 : decode cX2_takeValue 72 = .ok (.aload_n 0, 1) := by decide +kernel
theorem dX2_takeValue_73 : decode cX2_takeValue 73 = .ok (.getfield 60, 3) := by decide +kernel
theorem dX2_takeValue_76 : decode cX2_takeValue 76 = .ok (.lload 4, 2) := by decide +kernel
theorem dX2_takeValue_78 : decode cX2_takeValue 78 = .ok (.l2i, 1) := by decide +kernel
theorem dX2_takeValue_79 : decode cX2_takeValue 79 = .ok (.invokevirtual 164, 3) := by decide +kernel
theorem dX2_takeValue_82 : decode cX2_takeValue 82 = .ok (.iconst 1, 1) := by decide +kernel
theorem dX2_takeValue_83 : decode cX2_takeValue 83 = .ok (.ireturn, 1) := by decide +kernel
theorem dX3_init_0 : decode cX3_init 0 = .ok (.aload_n 0, 1) := by decide +kernel
theorem dX3_init_1 : decode cX3_init 1 = .ok (.invokespecial 1, 3) := by decide +kernel
theorem dX3_init_4 : decode cX3_init 4 = .ok (.aload_n 0, 1) := by decide +kernel
theorem dX3_init_5 : decode cX3_init 5 = .ok (.iconst 0, 1) := by decide +kernel
theorem dX3_init_6 : decode cX3_init 6 = .ok (.iload_n 1, 1) := by decide +kernel
theorem dX3_init_7 : decode cX3_init 7 = .ok (.invokestatic 7, 3) := by decide +kernel
theorem dX3_init_10 : decode cX3_init 10 = .ok (.newarray .byte, 2) := by decide +kernel
theorem dX3_init_12 : decode cX3_init 12 = .ok (.putfield 13, 3) := by decide +kernel
theorem dX3_init_15 : decode cX3_init 15 = .ok (.return_, 1) := by decide +kernel
theorem dX3_size_0 : decode cX3_size 0 = .ok (.aload_n 0, 1) := by decide +kernel
theorem dX3_size_1 : decode cX3_size 1 = .ok (.getfield 19, 3) := by decide +kernel
theorem dX3_size_4 : decode cX3_size 4 = .ok (.ireturn, 1) := by decide +kernel
theorem dX3_cut_0 : decode cX3_cut 0 = .ok (.aload_n 0, 1) := by decide +kernel
theorem dX3_cut_1 : decode cX3_cut 1 = .ok (.iconst 0, 1) := by decide +kernel
theorem dX3_cut_2 : decode cX3_cut 2 = .ok (.iload_n 1, 1) := by decide +kernel
theorem dX3_cut_3 : decode cX3_cut 3 = .ok (.aload_n 0, 1) := by decide +kernel
theorem dX3_cut_4 : decode cX3_cut 4 = .ok (.getfield 19, 3) := by decide +kernel
theorem dX3_cut_7 : decode cX3_cut 7 = .ok (.invokestatic 23, 3) := by decide +kernel
theorem dX3_cut_10 : decode cX3_cut 10 = .ok (.putfield 19, 3) := by decide +kernel
theorem dX3_cut_13 : decode cX3_cut 13 = .ok (.return_, 1) := by decide +kernel
theorem dX3_valueAt_0 : decode cX3_valueAt 0 = .ok (.iload_n 1, 1) := by decide +kernel
theorem dX3_valueAt_1 : decode cX3_valueAt 1 = .ok (.ifCond .lt 11, 3) := by decide +kernel
theorem dX3_valueAt_4 : decode cX3_valueAt 4 = .ok (.iload_n 1, 1) := by decide +kernel
theorem dX3_valueAt_5 : decode cX3_valueAt 5 = .ok (.aload_n 0, 1) := by decide +kernel
theorem dX3_valueAt_6 : decode cX3_valueAt 6 = .ok (.getfield 19, 3) := by decide +kernel
theorem dX3_valueAt_9 : decode cX3_valueAt 9 = .ok (.if_icmp .lt 13, 3) := by decide +kernel
theorem dX3_valueAt_12 : decode cX3_valueAt 12 = .ok (.new 29, 3) := by decide +kernel
theorem dX3_valueAt_15 : decode cX3_valueAt 15 = .ok (.dup, 1) := by decide +kernel
theorem dX3_valueAt_16 : decode cX3_valueAt 16 = .ok (.ldc 31, 2) := by decide +kernel
theorem dX3_valueAt_18 : decode cX3_valueAt 18 = .ok (.invokespecial 33, 3) := by decide +kernel
theorem dX3_valueAt_21 : decode cX3_valueAt 21 = .ok (.athrow, 1) := by decide +kernel
theorem dX3_valueAt_22 : decode cX3_valueAt 22 = .ok (.aload_n 0, 1) := by decide +kernel
theorem dX3_valueAt_23 : decode cX3_valueAt 23 = .ok (.getfield 13, 3) := by decide +kernel
theorem dX3_valueAt_26 : decode cX3_valueAt 26 = .ok (.iload_n 1, 1) := by decide +kernel
theorem dX3_valueAt_27 : decode cX3_valueAt 27 = .ok (.baload, 1) := by decide +kernel
theorem dX3_valueAt_28 : decode cX3_valueAt 28 = .ok (.sipush 255, 3) := by decide +kernel
theorem dX3_valueAt_31 : decode cX3_valueAt 31 = .ok (.iand, 1) := by decide +kernel
theorem dX3_valueAt_32 : decode cX3_valueAt 32 = .ok (.ireturn, 1) := by decide +kernel
theorem dX3_numberAt_0 : decode cX3_numberAt 0 = .ok (.iload_n 1, 1) := by decide +kernel
theorem dX3_numberAt_1 : decode cX3_numberAt 1 = .ok (.ifCond .lt 17, 3) := by decide +kernel
theorem dX3_numberAt_4 : decode cX3_numberAt 4 = .ok (.iload_n 2, 1) := by decide +kernel
theorem dX3_numberAt_5 : decode cX3_numberAt 5 = .ok (.ifCond .lt 13, 3) := by decide +kernel
theorem dX3_numberAt_8 : decode cX3_numberAt 8 = .ok (.iload_n 2, 1) := by decide +kernel
theorem dX3_numberAt_9 : decode cX3_numberAt 9 = .ok (.aload_n 0, 1) := by decide +kernel
theorem dX3_numberAt_10 : decode cX3_numberAt 10 = .ok (.getfield 19, 3) := by decide +kernel
theorem dX3_numberAt_13 : decode cX3_numberAt 13 = .ok (.iload_n 1, 1) := by decide +kernel
theorem dX3_numberAt_14 : decode cX3_numberAt 14 = .ok (.isub, 1) := by decide +kernel
theorem dX3_numberAt_15 : decode cX3_numberAt 15 = .ok (.if_icmp .le 13, 3) := by decide +kernel
theorem dX3_numberAt_18 : decode cX3_numberAt 18 = .ok (.new 29, 3) := by decide +kernel
theorem dX3_numberAt_21 : decode cX3_numberAt 21 = .ok (.dup, 1) := by decide +kernel
theorem dX3_numberAt_22 : decode cX3_numberAt 22 = .ok (.ldc 36, 2) := by decide +kernel
theorem dX3_numberAt_24 : decode cX3_numberAt 24 = .ok (.invokespecial 33, 3) := by decide +kernel
theorem dX3_numberAt_27 : decode cX3_numberAt 27 = .ok (.athrow, 1) := by decide +kernel
theorem dX3_numberAt_28 : decode cX3_numberAt 28 = .ok (.lconst 0, 1) := by decide +kernel
theorem dX3_numberAt_29 : decode cX3_numberAt 29 = .ok (.lstore 4, 2) := by decide +kernel
theorem dX3_numberAt_31 : decode cX3_numberAt 31 = .ok (.iconst 0, 1) := by decide +kernel
theorem dX3_numberAt_32 : decode cX3_numberAt 32 = .ok (.istore 6, 2) := by decide +kernel
theorem dX3_numberAt_34 : decode cX3_numberAt 34 = .ok (.iload 6, 2) := by decide +kernel
theorem dX3_numberAt_36 : decode cX3_numberAt 36 = .ok (.iload_n 2, 1) := by decide +kernel
theorem dX3_numberAt_37 : decode cX3_numberAt 37 = .ok (.if_icmp .ge 50, 3) := by decide +kernel
theorem dX3_numberAt_40 : decode cX3_numberAt 40 = .ok (.iload_n 3, 1) := by decide +kernel
theorem dX3_numberAt_41 : decode cX3_numberAt 41 = .ok (.ifCond .eq 14, 3) := by decide +kernel
theorem dX3_numberAt_44 : decode cX3_numberAt 44 = .ok (.iload_n 1, 1) := by decide +kernel
theorem dX3_numberAt_45 : decode cX3_numberAt 45 = .ok (.iload_n 2, 1) := by decide +kernel
theorem dX3_numberAt_46 : decode cX3_numberAt 46 = .ok (.iadd, 1) := by decide +kernel
theorem dX3_numberAt_47 : decode cX3_numberAt 47 = .ok (.iconst 1, 1) := by decide +kernel
theorem dX3_numberAt_48 : decode cX3_numberAt 48 = .ok (.isub, 1) := by decide +kernel
theorem dX3_numberAt_49 : decode cX3_numberAt 49 = .ok (.iload 6, 2) := by decide +kernel
