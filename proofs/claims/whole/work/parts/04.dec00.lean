theorem dX0_isFinite_0 : decode cX0_isFinite 0 = .ok (.lload_n 0, 1) := by decide +kernel
theorem dX0_isFinite_1 : decode cX0_isFinite 1 = .ok (.ldc2_w 9, 3) := by decide +kernel
theorem dX0_isFinite_4 : decode cX0_isFinite 4 = .ok (.land, 1) := by decide +kernel
theorem dX0_isFinite_5 : decode cX0_isFinite 5 = .ok (.ldc2_w 11, 3) := by decide +kernel
theorem dX0_isFinite_8 : decode cX0_isFinite 8 = .ok (.lcmp, 1) := by decide +kernel
theorem dX0_isFinite_9 : decode cX0_isFinite 9 = .ok (.ifCond .ge 7, 3) := by decide +kernel
theorem dX0_isFinite_12 : decode cX0_isFinite 12 = .ok (.iconst 1, 1) := by decide +kernel
theorem dX0_isFinite_13 : decode cX0_isFinite 13 = .ok (.goto 4, 3) := by decide +kernel
theorem dX0_isFinite_16 : decode cX0_isFinite 16 = .ok (.iconst 0, 1) := by decide +kernel
theorem dX0_isFinite_17 : decode cX0_isFinite 17 = .ok (.ireturn, 1) := by decide +kernel
theorem dX0_isNoNumber_0 : decode cX0_isNoNumber 0 = .ok (.lload_n 0, 1) := by decide +kernel
theorem dX0_isNoNumber_1 : decode cX0_isNoNumber 1 = .ok (.ldc2_w 9, 3) := by decide +kernel
theorem dX0_isNoNumber_4 : decode cX0_isNoNumber 4 = .ok (.land, 1) := by decide +kernel
theorem dX0_isNoNumber_5 : decode cX0_isNoNumber 5 = .ok (.ldc2_w 11, 3) := by decide +kernel
theorem dX0_isNoNumber_8 : decode cX0_isNoNumber 8 = .ok (.lcmp, 1) := by decide +kernel
theorem dX0_isNoNumber_9 : decode cX0_isNoNumber 9 = .ok (.ifCond .le 7, 3) := by decide +kernel
theorem dX0_isNoNumber_12 : decode cX0_isNoNumber 12 = .ok (.iconst 1, 1) := by decide +kernel
theorem dX0_isNoNumber_13 : decode cX0_isNoNumber 13 = .ok (.goto 4, 3) := by decide +kernel
theorem dX0_isNoNumber_16 : decode cX0_isNoNumber 16 = .ok (.iconst 0, 1) := by decide +kernel
theorem dX0_isNoNumber_17 : decode cX0_isNoNumber 17 = .ok (.ireturn, 1) := by decide +kernel
theorem dX0_rounded_0 : decode cX0_rounded 0 = .ok (.sipush 1075, 3) := by decide +kernel
theorem dX0_rounded_3 : decode cX0_rounded 3 = .ok (.lload_n 0, 1) := by decide +kernel
theorem dX0_rounded_4 : decode cX0_rounded 4 = .ok (.ldc2_w 9, 3) := by decide +kernel
theorem dX0_rounded_7 : decode cX0_rounded 7 = .ok (.land, 1) := by decide +kernel
theorem dX0_rounded_8 : decode cX0_rounded 8 = .ok (.bipush 52, 2) := by decide +kernel
theorem dX0_rounded_10 : decode cX0_rounded 10 = .ok (.lushr, 1) := by decide +kernel
theorem dX0_rounded_11 : decode cX0_rounded 11 = .ok (.l2i, 1) := by decide +kernel
theorem dX0_rounded_12 : decode cX0_rounded 12 = .ok (.isub, 1) := by decide +kernel
theorem dX0_rounded_13 : decode cX0_rounded 13 = .ok (.istore_n 3, 1) := by decide +kernel
theorem dX0_rounded_14 : decode cX0_rounded 14 = .ok (.iload_n 3, 1) := by decide +kernel
theorem dX0_rounded_15 : decode cX0_rounded 15 = .ok (.ifCond .gt 11, 3) := by decide +kernel
theorem dX0_rounded_18 : decode cX0_rounded 18 = .ok (.ldc2_w 13, 3) := by decide +kernel
theorem dX0_rounded_21 : decode cX0_rounded 21 = .ok (.lstore 4, 2) := by decide +kernel
theorem dX0_rounded_23 : decode cX0_rounded 23 = .ok (.goto 65, 3) := by decide +kernel
theorem dX0_rounded_26 : decode cX0_rounded 26 = .ok (.iload_n 3, 1) := by decide +kernel
theorem dX0_rounded_27 : decode cX0_rounded 27 = .ok (.bipush 63, 2) := by decide +kernel
theorem dX0_rounded_29 : decode cX0_rounded 29 = .ok (.if_icmp .le 9, 3) := by decide +kernel
theorem dX0_rounded_32 : decode cX0_rounded 32 = .ok (.lconst 0, 1) := by decide +kernel
theorem dX0_rounded_33 : decode cX0_rounded 33 = .ok (.lstore 4, 2) := by decide +kernel
theorem dX0_rounded_35 : decode cX0_rounded 35 = .ok (.goto 53, 3) := by decide +kernel
theorem dX0_rounded_38 : decode cX0_rounded 38 = .ok (.ldc2_w 15, 3) := by decide +kernel
theorem dX0_rounded_41 : decode cX0_rounded 41 = .ok (.lload_n 0, 1) := by decide +kernel
theorem dX0_rounded_42 : decode cX0_rounded 42 = .ok (.ldc2_w 17, 3) := by decide +kernel
theorem dX0_rounded_45 : decode cX0_rounded 45 = .ok (.land, 1) := by decide +kernel
theorem dX0_rounded_46 : decode cX0_rounded 46 = .ok (.lor, 1) := by decide +kernel
theorem dX0_rounded_47 : decode cX0_rounded 47 = .ok (.iload_n 2, 1) := by decide +kernel
theorem dX0_rounded_48 : decode cX0_rounded 48 = .ok (.i2l, 1) := by decide +kernel
theorem dX0_rounded_49 : decode cX0_rounded 49 = .ok (.lmul, 1) := by decide +kernel
theorem dX0_rounded_50 : decode cX0_rounded 50 = .ok (.lstore 6, 2) := by decide +kernel
theorem dX0_rounded_52 : decode cX0_rounded 52 = .ok (.lload 6, 2) := by decide +kernel
theorem dX0_rounded_54 : decode cX0_rounded 54 = .ok (.iload_n 3, 1) := by decide +kernel
theorem dX0_rounded_55 : decode cX0_rounded 55 = .ok (.lushr, 1) := by decide +kernel
theorem dX0_rounded_56 : decode cX0_rounded 56 = .ok (.lstore 4, 2) := by decide +kernel
theorem dX0_rounded_58 : decode cX0_rounded 58 = .ok (.lload 6, 2) := by decide +kernel
theorem dX0_rounded_60 : decode cX0_rounded 60 = .ok (.lload 4, 2) := by decide +kernel
theorem dX0_rounded_62 : decode cX0_rounded 62 = .ok (.iload_n 3, 1) := by decide +kernel
theorem dX0_rounded_63 : decode cX0_rounded 63 = .ok (.lshl, 1) := by decide +kernel
theorem dX0_rounded_64 : decode cX0_rounded 64 = .ok (.lsub, 1) := by decide +kernel
theorem dX0_rounded_65 : decode cX0_rounded 65 = .ok (.lstore 8, 2) := by decide +kernel
theorem dX0_rounded_67 : decode cX0_rounded 67 = .ok (.lload 4, 2) := by decide +kernel
theorem dX0_rounded_69 : decode cX0_rounded 69 = .ok (.lload 8, 2) := by decide +kernel
theorem dX0_rounded_71 : decode cX0_rounded 71 = .ok (.lconst 1, 1) := by decide +kernel
theorem dX0_rounded_72 : decode cX0_rounded 72 = .ok (.iload_n 3, 1) := by decide +kernel
theorem dX0_rounded_73 : decode cX0_rounded 73 = .ok (.iconst 1, 1) := by decide +kernel
theorem dX0_rounded_74 : decode cX0_rounded 74 = .ok (.isub, 1) := by decide +kernel
theorem dX0_rounded_75 : decode cX0_rounded 75 = .ok (.lshl, 1) := by decide +kernel
theorem dX0_rounded_76 : decode cX0_rounded 76 = .ok (.invokestatic 19, 3) := by decide +kernel
theorem dX0_rounded_79 : decode cX0_rounded 79 = .ok (.ifCond .eq 9, 3) := by decide +kernel
theorem dX0_rounded_82 : decode cX0_rounded 82 = .ok (.lload 4, 2) := by decide +kernel
theorem dX0_rounded_84 : decode cX0_rounded 84 = .ok (.lconst 1, 1) := by decide +kernel
theorem dX0_rounded_85 : decode cX0_rounded 85 = .ok (.ladd, 1) := by decide +kernel
theorem dX0_rounded_86 : decode cX0_rounded 86 = .ok (.lstore 4, 2) := by decide +kernel
theorem dX0_rounded_88 : decode cX0_rounded 88 = .ok (.lload_n 0, 1) := by decide +kernel
theorem dX0_rounded_89 : decode cX0_rounded 89 = .ok (.lconst 0, 1) := by decide +kernel
theorem dX0_rounded_90 : decode cX0_rounded 90 = .ok (.lcmp, 1) := by decide +kernel
theorem dX0_rounded_91 : decode cX0_rounded 91 = .ok (.ifCond .ge 9, 3) := by decide +kernel
theorem dX0_rounded_94 : decode cX0_rounded 94 = .ok (.lload 4, 2) := by decide +kernel
theorem dX0_rounded_96 : decode cX0_rounded 96 = .ok (.lneg, 1) := by decide +kernel
theorem dX0_rounded_97 : decode cX0_rounded 97 = .ok (.goto 5, 3) := by decide +kernel
theorem dX0_rounded_100 : decode cX0_rounded 100 = .ok (.lload 4, 2) := by decide +kernel
theorem dX0_rounded_102 : decode cX0_rounded 102 = .ok (.lreturn, 1) := by decide +kernel
theorem dX0_roundsUp_0 : decode cX0_roundsUp 0 = .ok (.lload_n 2, 1) := by decide +kernel
theorem dX0_roundsUp_1 : decode cX0_roundsUp 1 = .ok (.lload 4, 2) := by decide +kernel
theorem dX0_roundsUp_3 : decode cX0_roundsUp 3 = .ok (.lcmp, 1) := by decide +kernel
theorem dX0_roundsUp_4 : decode cX0_roundsUp 4 = .ok (.ifCond .gt 18, 3) := by decide +kernel
theorem dX0_roundsUp_7 : decode cX0_roundsUp 7 = .ok (.lload_n 2, 1) := by decide +kernel
theorem dX0_roundsUp_8 : decode cX0_roundsUp 8 = .ok (.lload 4, 2) := by decide +kernel
theorem dX0_roundsUp_10 : decode cX0_roundsUp 10 = .ok (.lcmp, 1) := by decide +kernel
theorem dX0_roundsUp_11 : decode cX0_roundsUp 11 = .ok (.ifCond .ne 15, 3) := by decide +kernel
theorem dX0_roundsUp_14 : decode cX0_roundsUp 14 = .ok (.lload_n 0, 1) := by decide +kernel
theorem dX0_roundsUp_15 : decode cX0_roundsUp 15 = .ok (.lconst 1, 1) := by decide +kernel
theorem dX0_roundsUp_16 : decode cX0_roundsUp 16 = .ok (.land, 1) := by decide +kernel
theorem dX0_roundsUp_17 : decode cX0_roundsUp 17 = .ok (.lconst 1, 1) := by decide +kernel
theorem dX0_roundsUp_18 : decode cX0_roundsUp 18 = .ok (.lcmp, 1) := by decide +kernel
theorem dX0_roundsUp_19 : decode cX0_roundsUp 19 = .ok (.ifCond .ne 7, 3) := by decide +kernel
theorem dX0_roundsUp_22 : decode cX0_roundsUp 22 = .ok (.iconst 1, 1) := by decide +kernel
theorem dX0_roundsUp_23 : decode cX0_roundsUp 23 = .ok (.goto 4, 3) := by decide +kernel
theorem dX0_roundsUp_26 : decode cX0_roundsUp 26 = .ok (.iconst 0, 1) := by decide +kernel
theorem dX0_roundsUp_27 : decode cX0_roundsUp 27 = .ok (.ireturn, 1) := by decide +kernel
theorem dX0_nearest_0 : decode cX0_nearest 0 = .ok (.iload_n 0, 1) := by decide +kernel
theorem dX0_nearest_1 : decode cX0_nearest 1 = .ok (.ifCond .eq 7, 3) := by decide +kernel
theorem dX0_nearest_4 : decode cX0_nearest 4 = .ok (.iload_n 1, 1) := by decide +kernel
theorem dX0_nearest_5 : decode cX0_nearest 5 = .ok (.ifCond .gt 5, 3) := by decide +kernel
theorem dX0_nearest_8 : decode cX0_nearest 8 = .ok (.lconst 0, 1) := by decide +kernel
theorem dX0_nearest_9 : decode cX0_nearest 9 = .ok (.lreturn, 1) := by decide +kernel
theorem dX0_nearest_10 : decode cX0_nearest 10 = .ok (.ldc2_w 15, 3) := by decide +kernel
theorem dX0_nearest_13 : decode cX0_nearest 13 = .ok (.iload_n 1, 1) := by decide +kernel
theorem dX0_nearest_14 : decode cX0_nearest 14 = .ok (.i2l, 1) := by decide +kernel
theorem dX0_nearest_15 : decode cX0_nearest 15 = .ok (.lmul, 1) := by decide +kernel
theorem dX0_nearest_16 : decode cX0_nearest 16 = .ok (.lstore_n 2, 1) := by decide +kernel
theorem dX0_nearest_17 : decode cX0_nearest 17 = .ok (.iload_n 0, 1) := by decide +kernel
theorem dX0_nearest_18 : decode cX0_nearest 18 = .ok (.i2l, 1) := by decide +kernel
theorem dX0_nearest_19 : decode cX0_nearest 19 = .ok (.invokestatic 23, 3) := by decide +kernel
theorem dX0_nearest_22 : decode cX0_nearest 22 = .ok (.lstore 4, 2) := by decide +kernel
theorem dX0_nearest_24 : decode cX0_nearest 24 = .ok (.iconst 0, 1) := by decide +kernel
theorem dX0_nearest_25 : decode cX0_nearest 25 = .ok (.istore 6, 2) := by decide +kernel
theorem dX0_nearest_27 : decode cX0_nearest 27 = .ok (.iload 6, 2) := by decide +kernel
theorem dX0_nearest_29 : decode cX0_nearest 29 = .ok (.bipush 63, 2) := by decide +kernel
theorem dX0_nearest_31 : decode cX0_nearest 31 = .ok (.if_icmp .ge 22, 3) := by decide +kernel
theorem dX0_nearest_34 : decode cX0_nearest 34 = .ok (.lload 4, 2) := by decide +kernel
theorem dX0_nearest_36 : decode cX0_nearest 36 = .ok (.lload_n 2, 1) := by decide +kernel
theorem dX0_nearest_37 : decode cX0_nearest 37 = .ok (.lcmp, 1) := by decide +kernel
theorem dX0_nearest_38 : decode cX0_nearest 38 = .ok (.ifCond .ge 15, 3) := by decide +kernel
theorem dX0_nearest_41 : decode cX0_nearest 41 = .ok (.lload 4, 2) := by decide +kernel
theorem dX0_nearest_43 : decode cX0_nearest 43 = .ok (.iconst 1, 1) := by decide +kernel
theorem dX0_nearest_44 : decode cX0_nearest 44 = .ok (.lshl, 1) := by decide +kernel
theorem dX0_nearest_45 : decode cX0_nearest 45 = .ok (.lstore 4, 2) := by decide +kernel
theorem dX0_nearest_47 : decode cX0_nearest 47 = .ok (.iinc 6 1, 3) := by decide +kernel
theorem dX0_nearest_50 : decode cX0_nearest 50 = .ok (.goto (-23), 3) := by decide +kernel
theorem dX0_nearest_53 : decode cX0_nearest 53 = .ok (.lload 4, 2) := by decide +kernel
theorem dX0_nearest_55 : decode cX0_nearest 55 = .ok (.iload_n 1, 1) := by decide +kernel
theorem dX0_nearest_56 : decode cX0_nearest 56 = .ok (.i2l, 1) := by decide +kernel
theorem dX0_nearest_57 : decode cX0_nearest 57 = .ok (.ldiv, 1) := by decide +kernel
theorem dX0_nearest_58 : decode cX0_nearest 58 = .ok (.lstore 7, 2) := by decide +kernel
theorem dX0_nearest_60 : decode cX0_nearest 60 = .ok (.lload 4, 2) := by decide +kernel
theorem dX0_nearest_62 : decode cX0_nearest 62 = .ok (.iload_n 1, 1) := by decide +kernel
theorem dX0_nearest_63 : decode cX0_nearest 63 = .ok (.i2l, 1) := by decide +kernel
theorem dX0_nearest_64 : decode cX0_nearest 64 = .ok (.lrem, 1) := by decide +kernel
theorem dX0_nearest_65 : decode cX0_nearest 65 = .ok (.lstore 9, 2) := by decide +kernel
theorem dX0_nearest_67 : decode cX0_nearest 67 = .ok (.lload 7, 2) := by decide +kernel
theorem dX0_nearest_69 : decode cX0_nearest 69 = .ok (.ldc2_w 29, 3) := by decide +kernel
theorem dX0_nearest_72 : decode cX0_nearest 72 = .ok (.lload 9, 2) := by decide +kernel
theorem dX0_nearest_74 : decode cX0_nearest 74 = .ok (.lmul, 1) := by decide +kernel
theorem dX0_nearest_75 : decode cX0_nearest 75 = .ok (.iload_n 1, 1) := by decide +kernel
theorem dX0_nearest_76 : decode cX0_nearest 76 = .ok (.i2l, 1) := by decide +kernel
theorem dX0_nearest_77 : decode cX0_nearest 77 = .ok (.invokestatic 19, 3) := by decide +kernel
theorem dX0_nearest_80 : decode cX0_nearest 80 = .ok (.ifCond .eq 9, 3) := by decide +kernel
theorem dX0_nearest_83 : decode cX0_nearest 83 = .ok (.lload 7, 2) := by decide +kernel
theorem dX0_nearest_85 : decode cX0_nearest 85 = .ok (.lconst 1, 1) := by decide +kernel
theorem dX0_nearest_86 : decode cX0_nearest 86 = .ok (.ladd, 1) := by decide +kernel
theorem dX0_nearest_87 : decode cX0_nearest 87 = .ok (.lstore 7, 2) := by decide +kernel
theorem dX0_nearest_89 : decode cX0_nearest 89 = .ok (.sipush 1075, 3) := by decide +kernel
theorem dX0_nearest_92 : decode cX0_nearest 92 = .ok (.iload 6, 2) := by decide +kernel
theorem dX0_nearest_94 : decode cX0_nearest 94 = .ok (.isub, 1) := by decide +kernel
theorem dX0_nearest_95 : decode cX0_nearest 95 = .ok (.i2l, 1) := by decide +kernel
theorem dX0_nearest_96 : decode cX0_nearest 96 = .ok (.bipush 52, 2) := by decide +kernel
theorem dX0_nearest_98 : decode cX0_nearest 98 = .ok (.lshl, 1) := by decide +kernel
theorem dX0_nearest_99 : decode cX0_nearest 99 = .ok (.lload 7, 2) := by decide +kernel
theorem dX0_nearest_101 : decode cX0_nearest 101 = .ok (.ldc2_w 15, 3) := by decide +kernel
theorem dX0_nearest_104 : decode cX0_nearest 104 = .ok (.lsub, 1) := by decide +kernel
theorem dX0_nearest_105 : decode cX0_nearest 105 = .ok (.ladd, 1) := by decide +kernel
theorem dX0_nearest_106 : decode cX0_nearest 106 = .ok (.lstore 11, 2) := by decide +kernel
theorem dX0_nearest_108 : decode cX0_nearest 108 = .ok (.iload_n 0, 1) := by decide +kernel
theorem dX0_nearest_109 : decode cX0_nearest 109 = .ok (.ifCond .ge 12, 3) := by decide +kernel
theorem dX0_nearest_112 : decode cX0_nearest 112 = .ok (.lload 11, 2) := by decide +kernel
theorem dX0_nearest_114 : decode cX0_nearest 114 = .ok (.ldc2_w 31, 3) := by decide +kernel
theorem dX0_nearest_117 : decode cX0_nearest 117 = .ok (.lor, 1) := by decide +kernel
theorem dX0_nearest_118 : decode cX0_nearest 118 = .ok (.goto 5, 3) := by decide +kernel
theorem dX0_nearest_121 : decode cX0_nearest 121 = .ok (.lload 11, 2) := by decide +kernel
theorem dX0_nearest_123 : decode cX0_nearest 123 = .ok (.lreturn, 1) := by decide +kernel
theorem dX1_ofType_0 : decode cX1_ofType 0 = .ok (.iload_n 0, 1) := by decide +kernel
theorem dX1_ofType_1 : decode cX1_ofType 1 = .ok (.ldc 9, 2) := by decide +kernel
theorem dX1_ofType_3 : decode cX1_ofType 3 = .ok (.iand, 1) := by decide +kernel
theorem dX1_ofType_4 : decode cX1_ofType 4 = .ok (.istore_n 1, 1) := by decide +kernel
theorem dX1_ofType_5 : decode cX1_ofType 5 = .ok (.iload_n 1, 1) := by decide +kernel
theorem dX1_ofType_6 : decode cX1_ofType 6 = .ok (.sipush 1000, 3) := by decide +kernel
theorem dX1_ofType_9 : decode cX1_ofType 9 = .ok (.irem, 1) := by decide +kernel
theorem dX1_ofType_10 : decode cX1_ofType 10 = .ok (.istore_n 2, 1) := by decide +kernel
theorem dX1_ofType_11 : decode cX1_ofType 11 = .ok (.iload_n 1, 1) := by decide +kernel
theorem dX1_ofType_12 : decode cX1_ofType 12 = .ok (.sipush 4000, 3) := by decide +kernel
theorem dX1_ofType_15 : decode cX1_ofType 15 = .ok (.if_icmp .ge 18, 3) := by decide +kernel
theorem dX1_ofType_18 : decode cX1_ofType 18 = .ok (.iload_n 2, 1) := by decide +kernel
theorem dX1_ofType_19 : decode cX1_ofType 19 = .ok (.iconst 1, 1) := by decide +kernel
theorem dX1_ofType_20 : decode cX1_ofType 20 = .ok (.if_icmp .lt 13, 3) := by decide +kernel
theorem dX1_ofType_23 : decode cX1_ofType 23 = .ok (.iload_n 2, 1) := by decide +kernel
theorem dX1_ofType_24 : decode cX1_ofType 24 = .ok (.bipush 7, 2) := by decide +kernel
theorem dX1_ofType_26 : decode cX1_ofType 26 = .ok (.if_icmp .gt 7, 3) := by decide +kernel
theorem dX1_ofType_29 : decode cX1_ofType 29 = .ok (.iconst 1, 1) := by decide +kernel
theorem dX1_ofType_30 : decode cX1_ofType 30 = .ok (.goto 4, 3) := by decide +kernel
theorem dX1_ofType_33 : decode cX1_ofType 33 = .ok (.iconst 0, 1) := by decide +kernel
theorem dX1_ofType_34 : decode cX1_ofType 34 = .ok (.istore_n 3, 1) := by decide +kernel
theorem dX1_ofType_35 : decode cX1_ofType 35 = .ok (.iload_n 3, 1) := by decide +kernel
theorem dX1_ofType_36 : decode cX1_ofType 36 = .ok (.ifCond .eq 7, 3) := by decide +kernel
theorem dX1_ofType_39 : decode cX1_ofType 39 = .ok (.iload_n 2, 1) := by decide +kernel
theorem dX1_ofType_40 : decode cX1_ofType 40 = .ok (.goto 4, 3) := by decide +kernel
theorem dX1_ofType_43 : decode cX1_ofType 43 = .ok (.iconst 0, 1) := by decide +kernel
theorem dX1_ofType_44 : decode cX1_ofType 44 = .ok (.ireturn, 1) := by decide +kernel
theorem dX1_hasMoreCoordinates_0 : decode cX1_hasMoreCoordinates 0 = .ok (.iload_n 0, 1) := by decide +kernel
theorem dX1_hasMoreCoordinates_1 : decode cX1_hasMoreCoordinates 1 = .ok (.ldc 10, 2) := by decide +kernel
theorem dX1_hasMoreCoordinates_3 : decode cX1_hasMoreCoordinates 3 = .ok (.iand, 1) := by decide +kernel
theorem dX1_hasMoreCoordinates_4 : decode cX1_hasMoreCoordinates 4 = .ok (.ifCond .ne 13, 3) := by decide +kernel
theorem dX1_hasMoreCoordinates_7 : decode cX1_hasMoreCoordinates 7 = .ok (.iload_n 0, 1) := by decide +kernel
theorem dX1_hasMoreCoordinates_8 : decode cX1_hasMoreCoordinates 8 = .ok (.ldc 9, 2) := by decide +kernel
theorem dX1_hasMoreCoordinates_10 : decode cX1_hasMoreCoordinates 10 = .ok (.iand, 1) := by decide +kernel
theorem dX1_hasMoreCoordinates_11 : decode cX1_hasMoreCoordinates 11 = .ok (.sipush 1000, 3) := by decide +kernel
theorem dX1_hasMoreCoordinates_14 : decode cX1_hasMoreCoordinates 14 = .ok (.if_icmp .lt 7, 3) := by decide +kernel
theorem dX1_hasMoreCoordinates_17 : decode cX1_hasMoreCoordinates 17 = .ok (.iconst 1, 1) := by decide +kernel
theorem dX1_hasMoreCoordinates_18 : decode cX1_hasMoreCoordinates 18 = .ok (.goto 4, 3) := by decide +kernel
theorem dX1_hasMoreCoordinates_21 : decode cX1_hasMoreCoordinates 21 = .ok (.iconst 0, 1) := by decide +kernel
theorem dX1_hasMoreCoordinates_22 : decode cX1_hasMoreCoordinates 22 = .ok (.ireturn, 1) := by decide +kernel
theorem dX1_hasMark_0 : decode cX1_hasMark 0 = .ok (.iload_n 0, 1) := by decide +kernel
theorem dX1_hasMark_1 : decode cX1_hasMark 1 = .ok (.ldc 11, 2) := by decide +kernel
theorem dX1_hasMark_3 : decode cX1_hasMark 3 = .ok (.iand, 1) := by decide +kernel
theorem dX1_hasMark_4 : decode cX1_hasMark 4 = .ok (.ifCond .eq 7, 3) := by decide +kernel
theorem dX1_hasMark_7 : decode cX1_hasMark 7 = .ok (.iconst 1, 1) := by decide +kernel
theorem dX1_hasMark_8 : decode cX1_hasMark 8 = .ok (.goto 4, 3) := by decide +kernel
theorem dX1_hasMark_11 : decode cX1_hasMark 11 = .ok (.iconst 0, 1) := by decide +kernel
theorem dX1_hasMark_12 : decode cX1_hasMark 12 = .ok (.ireturn, 1) := by decide +kernel
theorem dX2_init_0 : decode cX2_init 0 = .ok (.aload_n 0, 1) := by decide +kernel
theorem dX2_init_1 : decode cX2_init 1 = .ok (.invokespecial 5, 3) := by decide +kernel
theorem dX2_init_4 : decode cX2_init 4 = .ok (.aload_n 0, 1) := by decide +kernel
theorem dX2_init_5 : decode cX2_init 5 = .ok (.bipush 54, 2) := by decide +kernel
theorem dX2_init_7 : decode cX2_init 7 = .ok (.newarray .long, 2) := by decide +kernel
theorem dX2_init_9 : decode cX2_init 9 = .ok (.putfield 11, 3) := by decide +kernel
theorem dX2_init_12 : decode cX2_init 12 = .ok (.aload_n 0, 1) := by decide +kernel
theorem dX2_init_13 : decode cX2_init 13 = .ok (.bipush 54, 2) := by decide +kernel
theorem dX2_init_15 : decode cX2_init 15 = .ok (.newarray .int, 2) := by decide +kernel
theorem dX2_init_17 : decode cX2_init 17 = .ok (.putfield 15, 3) := by decide +kernel
theorem dX2_init_20 : decode cX2_init 20 = .ok (.aload_n 0, 1) := by decide +kernel
theorem dX2_init_21 : decode cX2_init 21 = .ok (.iload_n 1, 1) := by decide +kernel
theorem dX2_init_22 : decode cX2_init 22 = .ok (.putfield 19, 3) := by decide +kernel
theorem dX2_init_25 : decode cX2_init 25 = .ok (.return_, 1) := by decide +kernel
theorem dX2_wrong_0 : decode cX2_wrong 0 = .ok (.aload_n 0, 1) := by decide +kernel
theorem dX2_wrong_1 : decode cX2_wrong 1 = .ok (.getfield 23, 3) := by decide +kernel
theorem dX2_wrong_4 : decode cX2_wrong 4 = .ok (.ireturn, 1) := by decide +kernel
theorem dX2_place_0 : decode cX2_place 0 = .ok (.aload_n 0, 1) := by decide +kernel
theorem dX2_place_1 : decode cX2_place 1 = .ok (.getfield 26, 3) := by decide +kernel
theorem dX2_place_4 : decode cX2_place 4 = .ok (.ireturn, 1) := by decide +kernel
theorem dX2_takeAll_0 : decode cX2_takeAll 0 = .ok (.aload_n 0, 1) := by decide +kernel
theorem dX2_takeAll_1 : decode cX2_takeAll 1 = .ok (.aload_n 1, 1) := by decide +kernel
theorem dX2_takeAll_2 : decode cX2_takeAll 2 = .ok (.aload_n 2, 1) := by decide +kernel
theorem dX2_takeAll_3 : decode cX2_takeAll 3 = .ok (.invokevirtual 29, 3) := by decide +kernel
theorem dX2_takeAll_6 : decode cX2_takeAll 6 = .ok (.iconst 1, 1) := by decide +kernel
theorem dX2_takeAll_7 : decode cX2_takeAll 7 = .ok (.istore_n 3, 1) := by decide +kernel
theorem dX2_takeAll_8 : decode cX2_takeAll 8 = .ok (.iconst 0, 1) := by decide +kernel
theorem dX2_takeAll_9 : decode cX2_takeAll 9 = .ok (.istore 4, 2) := by decide +kernel
theorem dX2_takeAll_11 : decode cX2_takeAll 11 = .ok (.iload 4, 2) := by decide +kernel
theorem dX2_takeAll_13 : decode cX2_takeAll 13 = .ok (.sipush 8192, 3) := by decide +kernel
theorem dX2_takeAll_16 : decode cX2_takeAll 16 = .ok (.if_icmp .ge 29, 3) := by decide +kernel
theorem dX2_takeAll_19 : decode cX2_takeAll 19 = .ok (.iload_n 3, 1) := by decide +kernel
theorem dX2_takeAll_20 : decode cX2_takeAll 20 = .ok (.ifCond .eq 25, 3) := by decide +kernel
theorem dX2_takeAll_23 : decode cX2_takeAll 23 = .ok (.aload_n 0, 1) := by decide +kernel
theorem dX2_takeAll_24 : decode cX2_takeAll 24 = .ok (.getfield 33, 3) := by decide +kernel
theorem dX2_takeAll_27 : decode cX2_takeAll 27 = .ok (.ifCond .le 18, 3) := by decide +kernel
theorem dX2_takeAll_30 : decode cX2_takeAll 30 = .ok (.aload_n 0, 1) := by decide +kernel
theorem dX2_takeAll_31 : decode cX2_takeAll 31 = .ok (.invokevirtual 36, 3) := by decide +kernel
theorem dX2_takeAll_34 : decode cX2_takeAll 34 = .ok (.istore_n 3, 1) := by decide +kernel
theorem dX2_takeAll_35 : decode cX2_takeAll 35 = .ok (.aload_n 0, 1) := by decide +kernel
theorem dX2_takeAll_36 : decode cX2_takeAll 36 = .ok (.invokevirtual 40, 3) := by decide +kernel
theorem dX2_takeAll_39 : decode cX2_takeAll 39 = .ok (.iinc 4 1, 3) := by decide +kernel
theorem dX2_takeAll_42 : decode cX2_takeAll 42 = .ok (.goto (-31), 3) := by decide +kernel
theorem dX2_takeAll_45 : decode cX2_takeAll 45 = .ok (.iload_n 3, 1) := by decide +kernel
theorem dX2_takeAll_46 : decode cX2_takeAll 46 = .ok (.ifCond .eq 28, 3) := by decide +kernel
theorem dX2_takeAll_49 : decode cX2_takeAll 49 = .ok (.aload_n 0, 1) := by decide +kernel
theorem dX2_takeAll_50 : decode cX2_takeAll 50 = .ok (.getfield 43, 3) := by decide +kernel
theorem dX2_takeAll_53 : decode cX2_takeAll 53 = .ok (.aload_n 0, 1) := by decide +kernel
theorem dX2_takeAll_54 : decode cX2_takeAll 54 = .ok (.getfield 46, 3) := by decide +kernel
theorem dX2_takeAll_57 : decode cX2_takeAll 57 = .ok (.invokevirtual 50, 3) := by decide +kernel
theorem dX2_takeAll_60 : decode cX2_takeAll 60 = .ok (.if_icmp .ge 14, 3) := by decide +kernel
theorem dX2_takeAll_63 : decode cX2_takeAll 63 = .ok (.aload_n 0, 1) := by decide +kernel
theorem dX2_takeAll_64 : decode cX2_takeAll 64 = .ok (.bipush 8, 2) := by decide +kernel
theorem dX2_takeAll_66 : decode cX2_takeAll 66 = .ok (.aload_n 0, 1) := by decide +kernel
theorem dX2_takeAll_67 : decode cX2_takeAll 67 = .ok (.getfield 43, 3) := by decide +kernel
theorem dX2_takeAll_70 : decode cX2_takeAll 70 = .ok (.invokevirtual 56, 3) := by decide +kernel
theorem dX2_takeAll_73 : decode cX2_takeAll 73 = .ok (.istore_n 3, 1) := by decide +kernel
theorem dX2_takeAll_74 : decode cX2_takeAll 74 = .ok (.iload_n 3, 1) := by decide +kernel
theorem dX2_takeAll_75 : decode cX2_takeAll 75 = .ok (.ifCond .ne 10, 3) := by decide +kernel
theorem dX2_takeAll_78 : decode cX2_takeAll 78 = .ok (.aload_n 0, 1) := by decide +kernel
theorem dX2_takeAll_79 : decode cX2_takeAll 79 = .ok (.getfield 60, 3) := by decide +kernel
theorem dX2_takeAll_82 : decode cX2_takeAll 82 = .ok (.invokevirtual 64, 3) := by decide +kernel
theorem dX2_takeAll_85 : decode cX2_takeAll 85 = .ok (.iload_n 3, 1) := by decide +kernel
theorem dX2_takeAll_86 : decode cX2_takeAll 86 = .ok (.ireturn, 1) := by decide +kernel
theorem dX2_begin_0 : decode cX2_begin 0 = .ok (.aload_n 0, 1) := by decide +kernel
theorem dX2_begin_1 : decode cX2_begin 1 = .ok (.aload_n 1, 1) := by decide +kernel
theorem dX2_begin_2 : decode cX2_begin 2 = .ok (.putfield 46, 3) := by decide +kernel
theorem dX2_begin_5 : decode cX2_begin 5 = .ok (.aload_n 0, 1) := by decide +kernel
theorem dX2_begin_6 : decode cX2_begin 6 = .ok (.aload_n 2, 1) := by decide +kernel
theorem dX2_begin_7 : decode cX2_begin 7 = .ok (.putfield 60, 3) := by decide +kernel
theorem dX2_begin_10 : decode cX2_begin 10 = .ok (.aload_n 0, 1) := by decide +kernel
theorem dX2_begin_11 : decode cX2_begin 11 = .ok (.getfield 60, 3) := by decide +kernel
theorem dX2_begin_14 : decode cX2_begin 14 = .ok (.invokevirtual 64, 3) := by decide +kernel
theorem dX2_begin_17 : decode cX2_begin 17 = .ok (.aload_n 0, 1) := by decide +kernel
theorem dX2_begin_18 : decode cX2_begin 18 = .ok (.iconst 0, 1) := by decide +kernel
theorem dX2_begin_19 : decode cX2_begin 19 = .ok (.putfield 43, 3) := by decide +kernel
theorem dX2_begin_22 : decode cX2_begin 22 = .ok (.aload_n 0, 1) := by decide +kernel
theorem dX2_begin_23 : decode cX2_begin 23 = .ok (.iconst 0, 1) := by decide +kernel
theorem dX2_begin_24 : decode cX2_begin 24 = .ok (.putfield 23, 3) := by decide +kernel
theorem dX2_begin_27 : decode cX2_begin 27 = .ok (.aload_n 0, 1) := by decide +kernel
theorem dX2_begin_28 : decode cX2_begin 28 = .ok (.iconst 0, 1) := by decide +kernel
theorem dX2_begin_29 : decode cX2_begin 29 = .ok (.putfield 26, 3) := by decide +kernel
theorem dX2_begin_32 : decode cX2_begin 32 = .ok (.aload_n 0, 1) := by decide +kernel
theorem dX2_begin_33 : decode cX2_begin 33 = .ok (.iconst 0, 1) := by decide +kernel
theorem dX2_begin_34 : decode cX2_begin 34 = .ok (.putfield 33, 3) := by decide +kernel
theorem dX2_begin_37 : decode cX2_begin 37 = .ok (.aload_n 0, 1) := by decide +kernel
theorem dX2_begin_38 : decode cX2_begin 38 = .ok (.lconst 1, 1) := by decide +kernel
theorem dX2_begin_39 : decode cX2_begin 39 = .ok (.iconst 0, 1) := by decide +kernel
theorem dX2_begin_40 : decode cX2_begin 40 = .ok (.invokevirtual 71, 3) := by decide +kernel
theorem dX2_begin_43 : decode cX2_begin 43 = .ok (.return_, 1) := by decide +kernel
theorem dX2_waitFor_0 : decode cX2_waitFor 0 = .ok (.aload_n 0, 1) := by decide +kernel
theorem dX2_waitFor_1 : decode cX2_waitFor 1 = .ok (.getfield 33, 3) := by decide +kernel
theorem dX2_waitFor_4 : decode cX2_waitFor 4 = .ok (.bipush 54, 2) := by decide +kernel
theorem dX2_waitFor_6 : decode cX2_waitFor 6 = .ok (.if_icmp .ge 33, 3) := by decide +kernel
theorem dX2_waitFor_9 : decode cX2_waitFor 9 = .ok (.aload_n 0, 1) := by decide +kernel
theorem dX2_waitFor_10 : decode cX2_waitFor 10 = .ok (.getfield 11, 3) := by decide +kernel
theorem dX2_waitFor_13 : decode cX2_waitFor 13 = .ok (.aload_n 0, 1) := by decide +kernel
theorem dX2_waitFor_14 : decode cX2_waitFor 14 = .ok (.getfield 33, 3) := by decide +kernel
theorem dX2_waitFor_17 : decode cX2_waitFor 17 = .ok (.lload_n 1, 1) := by decide +kernel
theorem dX2_waitFor_18 : decode cX2_waitFor 18 = .ok (.lastore, 1) := by decide +kernel
theorem dX2_waitFor_19 : decode cX2_waitFor 19 = .ok (.aload_n 0, 1) := by decide +kernel
theorem dX2_waitFor_20 : decode cX2_waitFor 20 = .ok (.getfield 15, 3) := by decide +kernel
theorem dX2_waitFor_23 : decode cX2_waitFor 23 = .ok (.aload_n 0, 1) := by decide +kernel
theorem dX2_waitFor_24 : decode cX2_waitFor 24 = .ok (.getfield 33, 3) := by decide +kernel
theorem dX2_waitFor_27 : decode cX2_waitFor 27 = .ok (.iload_n 3, 1) := by decide +kernel
theorem dX2_waitFor_28 : decode cX2_waitFor 28 = .ok (.iastore, 1) := by decide +kernel
theorem dX2_waitFor_29 : decode cX2_waitFor 29 = .ok (.aload_n 0, 1) := by decide +kernel
theorem dX2_waitFor_30 : decode cX2_waitFor 30 = .ok (.dup, 1) := by decide +kernel
theorem dX2_waitFor_31 : decode cX2_waitFor 31 = .ok (.getfield 33, 3) := by decide +kernel
theorem dX2_waitFor_34 : decode cX2_waitFor 34 = .ok (.iconst 1, 1) := by decide +kernel
theorem dX2_waitFor_35 : decode cX2_waitFor 35 = .ok (.iadd, 1) := by decide +kernel
theorem dX2_waitFor_36 : decode cX2_waitFor 36 = .ok (.putfield 33, 3) := by decide +kernel
theorem dX2_waitFor_39 : decode cX2_waitFor 39 = .ok (.return_, 1) := by decide +kernel
theorem dX2_leaveFinished_0 : decode cX2_leaveFinished 0 = .ok (.aload_n 0, 1) := by decide +kernel
theorem dX2_leaveFinished_1 : decode cX2_leaveFinished 1 = .ok (.getfield 33, 3) := by decide +kernel
theorem dX2_leaveFinished_4 : decode cX2_leaveFinished 4 = .ok (.ifCond .le 32, 3) := by decide +kernel
theorem dX2_leaveFinished_7 : decode cX2_leaveFinished 7 = .ok (.aload_n 0, 1) := by decide +kernel
theorem dX2_leaveFinished_8 : decode cX2_leaveFinished 8 = .ok (.getfield 11, 3) := by decide +kernel
theorem dX2_leaveFinished_11 : decode cX2_leaveFinished 11 = .ok (.aload_n 0, 1) := by decide +kernel
theorem dX2_leaveFinished_12 : decode cX2_leaveFinished 12 = .ok (.getfield 33, 3) := by decide +kernel
theorem dX2_leaveFinished_15 : decode cX2_leaveFinished 15 = .ok (.iconst 1, 1) := by decide +kernel
theorem dX2_leaveFinished_16 : decode cX2_leaveFinished 16 = .ok (.isub, 1) := by decide +kernel
theorem dX2_leaveFinished_17 : decode cX2_leaveFinished 17 = .ok (.laload, 1) := by decide +kernel
theorem dX2_leaveFinished_18 : decode cX2_leaveFinished 18 = .ok (.lconst 0, 1) := by decide +kernel
theorem dX2_leaveFinished_19 : decode cX2_leaveFinished 19 = .ok (.lcmp, 1) := by decide +kernel
theorem dX2_leaveFinished_20 : decode cX2_leaveFinished 20 = .ok (.ifCond .ne 16, 3) := by decide +kernel
theorem dX2_leaveFinished_23 : decode cX2_leaveFinished 23 = .ok (.aload_n 0, 1) := by decide +kernel
theorem dX2_leaveFinished_24 : decode cX2_leaveFinished 24 = .ok (.dup, 1) := by decide +kernel
theorem dX2_leaveFinished_25 : decode cX2_leaveFinished 25 = .ok (.getfield 33, 3) := by decide +kernel
theorem dX2_leaveFinished_28 : decode cX2_leaveFinished 28 = .ok (.iconst 1, 1) := by decide +kernel
theorem dX2_leaveFinished_29 : decode cX2_leaveFinished 29 = .ok (.isub, 1) := by decide +kernel
theorem dX2_leaveFinished_30 : decode cX2_leaveFinished 30 = .ok (.putfield 33, 3) := by decide +kernel
theorem dX2_leaveFinished_33 : decode cX2_leaveFinished 33 = .ok (.goto (-33), 3) := by decide +kernel
theorem dX2_leaveFinished_36 : decode cX2_leaveFinished 36 = .ok (.return_, 1) := by decide +kernel
theorem dX2_takeItem_0 : decode cX2_takeItem 0 = .ok (.aload_n 0, 1) := by decide +kernel
theorem dX2_takeItem_1 : decode cX2_takeItem 1 = .ok (.getfield 33, 3) := by decide +kernel
theorem dX2_takeItem_4 : decode cX2_takeItem 4 = .ok (.iconst 1, 1) := by decide +kernel
theorem dX2_takeItem_5 : decode cX2_takeItem 5 = .ok (.isub, 1) := by decide +kernel
theorem dX2_takeItem_6 : decode cX2_takeItem 6 = .ok (.istore_n 1, 1) := by decide +kernel
theorem dX2_takeItem_7 : decode cX2_takeItem 7 = .ok (.aload_n 0, 1) := by decide +kernel
theorem dX2_takeItem_8 : decode cX2_takeItem 8 = .ok (.getfield 11, 3) := by decide +kernel
theorem dX2_takeItem_11 : decode cX2_takeItem 11 = .ok (.iload_n 1, 1) := by decide +kernel
theorem dX2_takeItem_12 : decode cX2_takeItem 12 = .ok (.dup2, 1) := by decide +kernel
theorem dX2_takeItem_13 : decode cX2_takeItem 13 = .ok (.laload, 1) := by decide +kernel
theorem dX2_takeItem_14 : decode cX2_takeItem 14 = .ok (.lconst 1, 1) := by decide +kernel
theorem dX2_takeItem_15 : decode cX2_takeItem 15 = .ok (.lsub, 1) := by decide +kernel
theorem dX2_takeItem_16 : decode cX2_takeItem 16 = .ok (.lastore, 1) := by decide +kernel
theorem dX2_takeItem_17 : decode cX2_takeItem 17 = .ok (.aload_n 0, 1) := by decide +kernel
theorem dX2_takeItem_18 : decode cX2_takeItem 18 = .ok (.getfield 15, 3) := by decide +kernel
theorem dX2_takeItem_21 : decode cX2_takeItem 21 = .ok (.iload_n 1, 1) := by decide +kernel
theorem dX2_takeItem_22 : decode cX2_takeItem 22 = .ok (.iaload, 1) := by decide +kernel
theorem dX2_takeItem_23 : decode cX2_takeItem 23 = .ok (.istore_n 2, 1) := by decide +kernel
theorem dX2_takeItem_24 : decode cX2_takeItem 24 = .ok (.iload_n 2, 1) := by decide +kernel
theorem dX2_takeItem_25 : decode cX2_takeItem 25 = .ok (.bipush 9, 2) := by decide +kernel
theorem dX2_takeItem_27 : decode cX2_takeItem 27 = .ok (.if_icmp .ne 8, 3) := by decide +kernel
theorem dX2_takeItem_30 : decode cX2_takeItem 30 = .ok (.aload_n 0, 1) := by decide +kernel
theorem dX2_takeItem_31 : decode cX2_takeItem 31 = .ok (.invokevirtual 75, 3) := by decide +kernel
theorem dX2_takeItem_34 : decode cX2_takeItem 34 = .ok (.ireturn, 1) := by decide +kernel
theorem dX2_takeItem_35 : decode cX2_takeItem 35 = .ok (.iload_n 2, 1) := by decide +kernel
theorem dX2_takeItem_36 : decode cX2_takeItem 36 = .ok (.bipush 8, 2) := by decide +kernel
theorem dX2_takeItem_38 : decode cX2_takeItem 38 = .ok (.if_icmp .ne 10, 3) := by decide +kernel
theorem dX2_takeItem_41 : decode cX2_takeItem 41 = .ok (.aload_n 0, 1) := by decide +kernel
theorem dX2_takeItem_42 : decode cX2_takeItem 42 = .ok (.invokevirtual 78, 3) := by decide +kernel
theorem dX2_takeItem_45 : decode cX2_takeItem 45 = .ok (.goto 8, 3) := by decide +kernel
theorem dX2_takeItem_48 : decode cX2_takeItem 48 = .ok (.aload_n 0, 1) := by decide +kernel
theorem dX2_takeItem_49 : decode cX2_takeItem 49 = .ok (.iload_n 2, 1) := by decide +kernel
theorem dX2_takeItem_50 : decode cX2_takeItem 50 = .ok (.invokevirtual 81, 3) := by decide +kernel
theorem dX2_takeItem_53 : decode cX2_takeItem 53 = .ok (.ireturn, 1) := by decide +kernel
theorem dX2_fail_0 : decode cX2_fail 0 = .ok (.aload_n 0, 1) := by decide +kernel
theorem dX2_fail_1 : decode cX2_fail 1 = .ok (.iload_n 1, 1) := by decide +kernel
theorem dX2_fail_2 : decode cX2_fail 2 = .ok (.putfield 23, 3) := by decide +kernel
theorem dX2_fail_5 : decode cX2_fail 5 = .ok (.aload_n 0, 1) := by decide +kernel
theorem dX2_fail_6 : decode cX2_fail 6 = .ok (.iload_n 2, 1) := by decide +kernel
theorem dX2_fail_7 : decode cX2_fail 7 = .ok (.putfield 26, 3) := by decide +kernel
theorem dX2_fail_10 : decode cX2_fail 10 = .ok (.iconst 0, 1) := by decide +kernel
theorem dX2_fail_11 : decode cX2_fail 11 = .ok (.ireturn, 1) := by decide +kernel
theorem dX2_isThere_0 : decode cX2_isThere 0 = .ok (.iload_n 1, 1) := by decide +kernel
theorem dX2_isThere_1 : decode cX2_isThere 1 = .ok (.aload_n 0, 1) := by decide +kernel
theorem dX2_isThere_2 : decode cX2_isThere 2 = .ok (.getfield 46, 3) := by decide +kernel
theorem dX2_isThere_5 : decode cX2_isThere 5 = .ok (.invokevirtual 50, 3) := by decide +kernel
theorem dX2_isThere_8 : decode cX2_isThere 8 = .ok (.aload_n 0, 1) := by decide +kernel
theorem dX2_isThere_9 : decode cX2_isThere 9 = .ok (.getfield 43, 3) := by decide +kernel
theorem dX2_isThere_12 : decode cX2_isThere 12 = .ok (.isub, 1) := by decide +kernel
theorem dX2_isThere_13 : decode cX2_isThere 13 = .ok (.if_icmp .le 15, 3) := by decide +kernel
theorem dX2_isThere_16 : decode cX2_isThere 16 = .ok (.aload_n 0, 1) := by decide +kernel
theorem dX2_isThere_17 : decode cX2_isThere 17 = .ok (.iconst 3, 1) := by decide +kernel
theorem dX2_isThere_18 : decode cX2_isThere 18 = .ok (.aload_n 0, 1) := by decide +kernel
theorem dX2_isThere_19 : decode cX2_isThere 19 = .ok (.getfield 43, 3) := by decide +kernel
theorem dX2_isThere_22 : decode cX2_isThere 22 = .ok (.invokevirtual 56, 3) := by decide +kernel
theorem dX2_isThere_25 : decode cX2_isThere 25 = .ok (.ifCond .eq 7, 3) := by decide +kernel
theorem dX2_isThere_28 : decode cX2_isThere 28 = .ok (.iconst 1, 1) := by decide +kernel
theorem dX2_isThere_29 : decode cX2_isThere 29 = .ok (.goto 4, 3) := by decide +kernel
theorem dX2_isThere_32 : decode cX2_isThere 32 = .ok (.iconst 0, 1) := by decide +kernel
theorem dX2_isThere_33 : decode cX2_isThere 33 = .ok (.ireturn, 1) := by decide +kernel
theorem dX2_takeNumber_0 : decode cX2_takeNumber 0 = .ok (.aload_n 0, 1) := by decide +kernel
theorem dX2_takeNumber_1 : decode cX2_takeNumber 1 = .ok (.getfield 46, 3) := by decide +kernel
theorem dX2_takeNumber_4 : decode cX2_takeNumber 4 = .ok (.aload_n 0, 1) := by decide +kernel
theorem dX2_takeNumber_5 : decode cX2_takeNumber 5 = .ok (.getfield 43, 3) := by decide +kernel
theorem dX2_takeNumber_8 : decode cX2_takeNumber 8 = .ok (.iload_n 1, 1) := by decide +kernel
theorem dX2_takeNumber_9 : decode cX2_takeNumber 9 = .ok (.aload_n 0, 1) := by decide +kernel
theorem dX2_takeNumber_10 : decode cX2_takeNumber 10 = .ok (.getfield 85, 3) := by decide +kernel
theorem dX2_takeNumber_13 : decode cX2_takeNumber 13 = .ok (.invokevirtual 89, 3) := by decide +kernel
