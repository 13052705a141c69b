theorem dX7_init_85 : decode cX7_init 85 = .ok (.sipush 4096, 3) := by decide +kernel
theorem dX7_init_88 : decode cX7_init 88 = .ok (.if_icmp .le 9, 3) := by decide +kernel
theorem dX7_init_91 : decode cX7_init 91 = .ok (.sipush 4096, 3) := by decide +kernel
theorem dX7_init_94 : decode cX7_init 94 = .ok (.goto 4, 3) := by decide +kernel
theorem dX7_init_97 : decode cX7_init 97 = .ok (.iload_n 2, 1) := by decide +kernel
theorem dX7_init_98 : decode cX7_init 98 = .ok (.putfield 42, 3) := by decide +kernel
theorem dX7_init_101 : decode cX7_init 101 = .ok (.aload_n 0, 1) := by decide +kernel
theorem dX7_init_102 : decode cX7_init 102 = .ok (.iload_n 3, 1) := by decide +kernel
theorem dX7_init_103 : decode cX7_init 103 = .ok (.iconst 2, 1) := by decide +kernel
theorem dX7_init_104 : decode cX7_init 104 = .ok (.if_icmp .ge 7, 3) := by decide +kernel
theorem dX7_init_107 : decode cX7_init 107 = .ok (.iconst 2, 1) := by decide +kernel
theorem dX7_init_108 : decode cX7_init 108 = .ok (.goto 17, 3) := by decide +kernel
theorem dX7_init_111 : decode cX7_init 111 = .ok (.iload_n 3, 1) := by decide +kernel
theorem dX7_init_112 : decode cX7_init 112 = .ok (.sipush 4096, 3) := by decide +kernel
theorem dX7_init_115 : decode cX7_init 115 = .ok (.if_icmp .le 9, 3) := by decide +kernel
theorem dX7_init_118 : decode cX7_init 118 = .ok (.sipush 4096, 3) := by decide +kernel
theorem dX7_init_121 : decode cX7_init 121 = .ok (.goto 4, 3) := by decide +kernel
theorem dX7_init_124 : decode cX7_init 124 = .ok (.iload_n 3, 1) := by decide +kernel
theorem dX7_init_125 : decode cX7_init 125 = .ok (.putfield 45, 3) := by decide +kernel
theorem dX7_init_128 : decode cX7_init 128 = .ok (.return_, 1) := by decide +kernel
theorem dX7_thrown_0 : decode cX7_thrown 0 = .ok (.aload_n 0, 1) := by decide +kernel
theorem dX7_thrown_1 : decode cX7_thrown 1 = .ok (.getfield 48, 3) := by decide +kernel
theorem dX7_thrown_4 : decode cX7_thrown 4 = .ok (.ireturn, 1) := by decide +kernel
theorem dX7_fail_0 : decode cX7_fail 0 = .ok (.aload_n 0, 1) := by decide +kernel
theorem dX7_fail_1 : decode cX7_fail 1 = .ok (.iload_n 1, 1) := by decide +kernel
theorem dX7_fail_2 : decode cX7_fail 2 = .ok (.putfield 48, 3) := by decide +kernel
theorem dX7_fail_5 : decode cX7_fail 5 = .ok (.iconst 0, 1) := by decide +kernel
theorem dX7_fail_6 : decode cX7_fail 6 = .ok (.ireturn, 1) := by decide +kernel
theorem dX7_within_0 : decode cX7_within 0 = .ok (.iload_n 0, 1) := by decide +kernel
theorem dX7_within_1 : decode cX7_within 1 = .ok (.iload_n 1, 1) := by decide +kernel
theorem dX7_within_2 : decode cX7_within 2 = .ok (.if_icmp .lt 12, 3) := by decide +kernel
theorem dX7_within_5 : decode cX7_within 5 = .ok (.iload_n 0, 1) := by decide +kernel
theorem dX7_within_6 : decode cX7_within 6 = .ok (.iload_n 2, 1) := by decide +kernel
theorem dX7_within_7 : decode cX7_within 7 = .ok (.if_icmp .gt 7, 3) := by decide +kernel
theorem dX7_within_10 : decode cX7_within 10 = .ok (.iconst 1, 1) := by decide +kernel
theorem dX7_within_11 : decode cX7_within 11 = .ok (.goto 4, 3) := by decide +kernel
theorem dX7_within_14 : decode cX7_within 14 = .ok (.iconst 0, 1) := by decide +kernel
theorem dX7_within_15 : decode cX7_within 15 = .ok (.ireturn, 1) := by decide +kernel
theorem dX7_isSlot_0 : decode cX7_isSlot 0 = .ok (.iload_n 0, 1) := by decide +kernel
theorem dX7_isSlot_1 : decode cX7_isSlot 1 = .ok (.iconst 0, 1) := by decide +kernel
theorem dX7_isSlot_2 : decode cX7_isSlot 2 = .ok (.iconst 3, 1) := by decide +kernel
theorem dX7_isSlot_3 : decode cX7_isSlot 3 = .ok (.invokestatic 51, 3) := by decide +kernel
theorem dX7_isSlot_6 : decode cX7_isSlot 6 = .ok (.ireturn, 1) := by decide +kernel
theorem dX7_feed_0 : decode cX7_feed 0 = .ok (.aload_n 0, 1) := by decide +kernel
theorem dX7_feed_1 : decode cX7_feed 1 = .ok (.iconst 0, 1) := by decide +kernel
theorem dX7_feed_2 : decode cX7_feed 2 = .ok (.putfield 48, 3) := by decide +kernel
theorem dX7_feed_5 : decode cX7_feed 5 = .ok (.aload_n 0, 1) := by decide +kernel
theorem dX7_feed_6 : decode cX7_feed 6 = .ok (.getfield 55, 3) := by decide +kernel
theorem dX7_feed_9 : decode cX7_feed 9 = .ok (.bipush 20, 2) := by decide +kernel
theorem dX7_feed_11 : decode cX7_feed 11 = .ok (.iadd, 1) := by decide +kernel
theorem dX7_feed_12 : decode cX7_feed 12 = .ok (.ldc 7, 2) := by decide +kernel
theorem dX7_feed_14 : decode cX7_feed 14 = .ok (.if_icmp .le 9, 3) := by decide +kernel
theorem dX7_feed_17 : decode cX7_feed 17 = .ok (.aload_n 0, 1) := by decide +kernel
theorem dX7_feed_18 : decode cX7_feed 18 = .ok (.iconst 1, 1) := by decide +kernel
theorem dX7_feed_19 : decode cX7_feed 19 = .ok (.invokevirtual 58, 3) := by decide +kernel
theorem dX7_feed_22 : decode cX7_feed 22 = .ok (.ireturn, 1) := by decide +kernel
theorem dX7_feed_23 : decode cX7_feed 23 = .ok (.iconst 0, 1) := by decide +kernel
theorem dX7_feed_24 : decode cX7_feed 24 = .ok (.istore 6, 2) := by decide +kernel
theorem dX7_feed_26 : decode cX7_feed 26 = .ok (.iload 6, 2) := by decide +kernel
theorem dX7_feed_28 : decode cX7_feed 28 = .ok (.bipush 20, 2) := by decide +kernel
theorem dX7_feed_30 : decode cX7_feed 30 = .ok (.if_icmp .ge 86, 3) := by decide +kernel
theorem dX7_feed_33 : decode cX7_feed 33 = .ok (.iload 6, 2) := by decide +kernel
theorem dX7_feed_35 : decode cX7_feed 35 = .ok (.iconst 4, 1) := by decide +kernel
theorem dX7_feed_36 : decode cX7_feed 36 = .ok (.if_icmp .ge 7, 3) := by decide +kernel
theorem dX7_feed_39 : decode cX7_feed 39 = .ok (.iload_n 1, 1) := by decide +kernel
theorem dX7_feed_40 : decode cX7_feed 40 = .ok (.goto 39, 3) := by decide +kernel
theorem dX7_feed_43 : decode cX7_feed 43 = .ok (.iload 6, 2) := by decide +kernel
theorem dX7_feed_45 : decode cX7_feed 45 = .ok (.bipush 8, 2) := by decide +kernel
theorem dX7_feed_47 : decode cX7_feed 47 = .ok (.if_icmp .ge 7, 3) := by decide +kernel
theorem dX7_feed_50 : decode cX7_feed 50 = .ok (.iload_n 2, 1) := by decide +kernel
theorem dX7_feed_51 : decode cX7_feed 51 = .ok (.goto 28, 3) := by decide +kernel
theorem dX7_feed_54 : decode cX7_feed 54 = .ok (.iload 6, 2) := by decide +kernel
theorem dX7_feed_56 : decode cX7_feed 56 = .ok (.bipush 12, 2) := by decide +kernel
theorem dX7_feed_58 : decode cX7_feed 58 = .ok (.if_icmp .ge 7, 3) := by decide +kernel
theorem dX7_feed_61 : decode cX7_feed 61 = .ok (.iload_n 3, 1) := by decide +kernel
theorem dX7_feed_62 : decode cX7_feed 62 = .ok (.goto 17, 3) := by decide +kernel
theorem dX7_feed_65 : decode cX7_feed 65 = .ok (.iload 6, 2) := by decide +kernel
theorem dX7_feed_67 : decode cX7_feed 67 = .ok (.bipush 16, 2) := by decide +kernel
theorem dX7_feed_69 : decode cX7_feed 69 = .ok (.if_icmp .ge 8, 3) := by decide +kernel
theorem dX7_feed_72 : decode cX7_feed 72 = .ok (.iload 4, 2) := by decide +kernel
theorem dX7_feed_74 : decode cX7_feed 74 = .ok (.goto 5, 3) := by decide +kernel
theorem dX7_feed_77 : decode cX7_feed 77 = .ok (.iload 5, 2) := by decide +kernel
theorem dX7_feed_79 : decode cX7_feed 79 = .ok (.istore 7, 2) := by decide +kernel
theorem dX7_feed_81 : decode cX7_feed 81 = .ok (.aload_n 0, 1) := by decide +kernel
theorem dX7_feed_82 : decode cX7_feed 82 = .ok (.getfield 8, 3) := by decide +kernel
theorem dX7_feed_85 : decode cX7_feed 85 = .ok (.aload_n 0, 1) := by decide +kernel
theorem dX7_feed_86 : decode cX7_feed 86 = .ok (.getfield 55, 3) := by decide +kernel
theorem dX7_feed_89 : decode cX7_feed 89 = .ok (.iload 6, 2) := by decide +kernel
theorem dX7_feed_91 : decode cX7_feed 91 = .ok (.iadd, 1) := by decide +kernel
theorem dX7_feed_92 : decode cX7_feed 92 = .ok (.iload 7, 2) := by decide +kernel
theorem dX7_feed_94 : decode cX7_feed 94 = .ok (.bipush 24, 2) := by decide +kernel
theorem dX7_feed_96 : decode cX7_feed 96 = .ok (.bipush 8, 2) := by decide +kernel
theorem dX7_feed_98 : decode cX7_feed 98 = .ok (.iload 6, 2) := by decide +kernel
theorem dX7_feed_100 : decode cX7_feed 100 = .ok (.iconst 4, 1) := by decide +kernel
theorem dX7_feed_101 : decode cX7_feed 101 = .ok (.irem, 1) := by decide +kernel
theorem dX7_feed_102 : decode cX7_feed 102 = .ok (.imul, 1) := by decide +kernel
theorem dX7_feed_103 : decode cX7_feed 103 = .ok (.isub, 1) := by decide +kernel
theorem dX7_feed_104 : decode cX7_feed 104 = .ok (.ishr, 1) := by decide +kernel
theorem dX7_feed_105 : decode cX7_feed 105 = .ok (.sipush 255, 3) := by decide +kernel
theorem dX7_feed_108 : decode cX7_feed 108 = .ok (.iand, 1) := by decide +kernel
theorem dX7_feed_109 : decode cX7_feed 109 = .ok (.iastore, 1) := by decide +kernel
theorem dX7_feed_110 : decode cX7_feed 110 = .ok (.iinc 6 1, 3) := by decide +kernel
theorem dX7_feed_113 : decode cX7_feed 113 = .ok (.goto (-87), 3) := by decide +kernel
theorem dX7_feed_116 : decode cX7_feed 116 = .ok (.aload_n 0, 1) := by decide +kernel
theorem dX7_feed_117 : decode cX7_feed 117 = .ok (.dup, 1) := by decide +kernel
theorem dX7_feed_118 : decode cX7_feed 118 = .ok (.getfield 55, 3) := by decide +kernel
theorem dX7_feed_121 : decode cX7_feed 121 = .ok (.bipush 20, 2) := by decide +kernel
theorem dX7_feed_123 : decode cX7_feed 123 = .ok (.iadd, 1) := by decide +kernel
theorem dX7_feed_124 : decode cX7_feed 124 = .ok (.putfield 55, 3) := by decide +kernel
theorem dX7_feed_127 : decode cX7_feed 127 = .ok (.aload_n 0, 1) := by decide +kernel
theorem dX7_feed_128 : decode cX7_feed 128 = .ok (.getfield 55, 3) := by decide +kernel
theorem dX7_feed_131 : decode cX7_feed 131 = .ok (.ireturn, 1) := by decide +kernel
theorem dX7_end_0 : decode cX7_end 0 = .ok (.aload_n 0, 1) := by decide +kernel
theorem dX7_end_1 : decode cX7_end 1 = .ok (.iconst 0, 1) := by decide +kernel
theorem dX7_end_2 : decode cX7_end 2 = .ok (.putfield 48, 3) := by decide +kernel
theorem dX7_end_5 : decode cX7_end 5 = .ok (.iload_n 1, 1) := by decide +kernel
theorem dX7_end_6 : decode cX7_end 6 = .ok (.iconst 0, 1) := by decide +kernel
theorem dX7_end_7 : decode cX7_end 7 = .ok (.bipush 20, 2) := by decide +kernel
theorem dX7_end_9 : decode cX7_end 9 = .ok (.invokestatic 51, 3) := by decide +kernel
theorem dX7_end_12 : decode cX7_end 12 = .ok (.ifCond .ne 9, 3) := by decide +kernel
theorem dX7_end_15 : decode cX7_end 15 = .ok (.aload_n 0, 1) := by decide +kernel
theorem dX7_end_16 : decode cX7_end 16 = .ok (.iconst 1, 1) := by decide +kernel
theorem dX7_end_17 : decode cX7_end 17 = .ok (.invokevirtual 58, 3) := by decide +kernel
theorem dX7_end_20 : decode cX7_end 20 = .ok (.ireturn, 1) := by decide +kernel
theorem dX7_end_21 : decode cX7_end 21 = .ok (.aload_n 0, 1) := by decide +kernel
theorem dX7_end_22 : decode cX7_end 22 = .ok (.getfield 55, 3) := by decide +kernel
theorem dX7_end_25 : decode cX7_end 25 = .ok (.bipush 20, 2) := by decide +kernel
theorem dX7_end_27 : decode cX7_end 27 = .ok (.if_icmp .ge 9, 3) := by decide +kernel
theorem dX7_end_30 : decode cX7_end 30 = .ok (.aload_n 0, 1) := by decide +kernel
theorem dX7_end_31 : decode cX7_end 31 = .ok (.iconst 2, 1) := by decide +kernel
theorem dX7_end_32 : decode cX7_end 32 = .ok (.invokevirtual 58, 3) := by decide +kernel
theorem dX7_end_35 : decode cX7_end 35 = .ok (.ireturn, 1) := by decide +kernel
theorem dX7_end_36 : decode cX7_end 36 = .ok (.aload_n 0, 1) := by decide +kernel
theorem dX7_end_37 : decode cX7_end 37 = .ok (.dup, 1) := by decide +kernel
theorem dX7_end_38 : decode cX7_end 38 = .ok (.getfield 55, 3) := by decide +kernel
theorem dX7_end_41 : decode cX7_end 41 = .ok (.bipush 20, 2) := by decide +kernel
theorem dX7_end_43 : decode cX7_end 43 = .ok (.iload_n 1, 1) := by decide +kernel
theorem dX7_end_44 : decode cX7_end 44 = .ok (.isub, 1) := by decide +kernel
theorem dX7_end_45 : decode cX7_end 45 = .ok (.isub, 1) := by decide +kernel
theorem dX7_end_46 : decode cX7_end 46 = .ok (.putfield 55, 3) := by decide +kernel
theorem dX7_end_49 : decode cX7_end 49 = .ok (.aload_n 0, 1) := by decide +kernel
theorem dX7_end_50 : decode cX7_end 50 = .ok (.getfield 55, 3) := by decide +kernel
theorem dX7_end_53 : decode cX7_end 53 = .ok (.ireturn, 1) := by decide +kernel
theorem dX7_wrong_0 : decode cX7_wrong 0 = .ok (.aload_n 0, 1) := by decide +kernel
theorem dX7_wrong_1 : decode cX7_wrong 1 = .ok (.iload_n 1, 1) := by decide +kernel
theorem dX7_wrong_2 : decode cX7_wrong 2 = .ok (.putfield 62, 3) := by decide +kernel
theorem dX7_wrong_5 : decode cX7_wrong 5 = .ok (.aload_n 0, 1) := by decide +kernel
theorem dX7_wrong_6 : decode cX7_wrong 6 = .ok (.iload_n 2, 1) := by decide +kernel
theorem dX7_wrong_7 : decode cX7_wrong 7 = .ok (.putfield 65, 3) := by decide +kernel
theorem dX7_wrong_10 : decode cX7_wrong 10 = .ok (.iconst 0, 1) := by decide +kernel
theorem dX7_wrong_11 : decode cX7_wrong 11 = .ok (.ireturn, 1) := by decide +kernel
theorem dX7_take_0 : decode cX7_take 0 = .ok (.aload_n 0, 1) := by decide +kernel
theorem dX7_take_1 : decode cX7_take 1 = .ok (.getfield 68, 3) := by decide +kernel
theorem dX7_take_4 : decode cX7_take 4 = .ok (.iload_n 1, 1) := by decide +kernel
theorem dX7_take_5 : decode cX7_take 5 = .ok (.iadd, 1) := by decide +kernel
theorem dX7_take_6 : decode cX7_take 6 = .ok (.aload_n 0, 1) := by decide +kernel
theorem dX7_take_7 : decode cX7_take 7 = .ok (.getfield 55, 3) := by decide +kernel
theorem dX7_take_10 : decode cX7_take 10 = .ok (.if_icmp .le 13, 3) := by decide +kernel
theorem dX7_take_13 : decode cX7_take 13 = .ok (.aload_n 0, 1) := by decide +kernel
theorem dX7_take_14 : decode cX7_take 14 = .ok (.iconst 3, 1) := by decide +kernel
theorem dX7_take_15 : decode cX7_take 15 = .ok (.aload_n 0, 1) := by decide +kernel
theorem dX7_take_16 : decode cX7_take 16 = .ok (.getfield 68, 3) := by decide +kernel
theorem dX7_take_19 : decode cX7_take 19 = .ok (.invokevirtual 71, 3) := by decide +kernel
theorem dX7_take_22 : decode cX7_take 22 = .ok (.ireturn, 1) := by decide +kernel
theorem dX7_take_23 : decode cX7_take 23 = .ok (.aload_n 0, 1) := by decide +kernel
theorem dX7_take_24 : decode cX7_take 24 = .ok (.lconst 0, 1) := by decide +kernel
theorem dX7_take_25 : decode cX7_take 25 = .ok (.putfield 75, 3) := by decide +kernel
theorem dX7_take_28 : decode cX7_take 28 = .ok (.iconst 0, 1) := by decide +kernel
theorem dX7_take_29 : decode cX7_take 29 = .ok (.istore_n 2, 1) := by decide +kernel
theorem dX7_take_30 : decode cX7_take 30 = .ok (.iload_n 2, 1) := by decide +kernel
theorem dX7_take_31 : decode cX7_take 31 = .ok (.iload_n 1, 1) := by decide +kernel
theorem dX7_take_32 : decode cX7_take 32 = .ok (.if_icmp .ge 50, 3) := by decide +kernel
theorem dX7_take_35 : decode cX7_take 35 = .ok (.aload_n 0, 1) := by decide +kernel
theorem dX7_take_36 : decode cX7_take 36 = .ok (.dup, 1) := by decide +kernel
theorem dX7_take_37 : decode cX7_take 37 = .ok (.getfield 75, 3) := by decide +kernel
theorem dX7_take_40 : decode cX7_take 40 = .ok (.aload_n 0, 1) := by decide +kernel
theorem dX7_take_41 : decode cX7_take 41 = .ok (.getfield 8, 3) := by decide +kernel
theorem dX7_take_44 : decode cX7_take 44 = .ok (.aload_n 0, 1) := by decide +kernel
theorem dX7_take_45 : decode cX7_take 45 = .ok (.getfield 68, 3) := by decide +kernel
theorem dX7_take_48 : decode cX7_take 48 = .ok (.iload_n 2, 1) := by decide +kernel
theorem dX7_take_49 : decode cX7_take 49 = .ok (.iadd, 1) := by decide +kernel
theorem dX7_take_50 : decode cX7_take 50 = .ok (.iaload, 1) := by decide +kernel
theorem dX7_take_51 : decode cX7_take 51 = .ok (.i2l, 1) := by decide +kernel
theorem dX7_take_52 : decode cX7_take 52 = .ok (.bipush 8, 2) := by decide +kernel
theorem dX7_take_54 : decode cX7_take 54 = .ok (.aload_n 0, 1) := by decide +kernel
theorem dX7_take_55 : decode cX7_take 55 = .ok (.getfield 79, 3) := by decide +kernel
theorem dX7_take_58 : decode cX7_take 58 = .ok (.ifCond .eq 7, 3) := by decide +kernel
theorem dX7_take_61 : decode cX7_take 61 = .ok (.iload_n 2, 1) := by decide +kernel
theorem dX7_take_62 : decode cX7_take 62 = .ok (.goto 8, 3) := by decide +kernel
theorem dX7_take_65 : decode cX7_take 65 = .ok (.iload_n 1, 1) := by decide +kernel
theorem dX7_take_66 : decode cX7_take 66 = .ok (.iconst 1, 1) := by decide +kernel
theorem dX7_take_67 : decode cX7_take 67 = .ok (.isub, 1) := by decide +kernel
theorem dX7_take_68 : decode cX7_take 68 = .ok (.iload_n 2, 1) := by decide +kernel
theorem dX7_take_69 : decode cX7_take 69 = .ok (.isub, 1) := by decide +kernel
theorem dX7_take_70 : decode cX7_take 70 = .ok (.imul, 1) := by decide +kernel
theorem dX7_take_71 : decode cX7_take 71 = .ok (.lshl, 1) := by decide +kernel
theorem dX7_take_72 : decode cX7_take 72 = .ok (.lor, 1) := by decide +kernel
theorem dX7_take_73 : decode cX7_take 73 = .ok (.putfield 75, 3) := by decide +kernel
theorem dX7_take_76 : decode cX7_take 76 = .ok (.iinc 2 1, 3) := by decide +kernel
theorem dX7_take_79 : decode cX7_take 79 = .ok (.goto (-49), 3) := by decide +kernel
theorem dX7_take_82 : decode cX7_take 82 = .ok (.aload_n 0, 1) := by decide +kernel
theorem dX7_take_83 : decode cX7_take 83 = .ok (.dup, 1) := by decide +kernel
theorem dX7_take_84 : decode cX7_take 84 = .ok (.getfield 68, 3) := by decide +kernel
theorem dX7_take_87 : decode cX7_take 87 = .ok (.iload_n 1, 1) := by decide +kernel
theorem dX7_take_88 : decode cX7_take 88 = .ok (.iadd, 1) := by decide +kernel
theorem dX7_take_89 : decode cX7_take 89 = .ok (.putfield 68, 3) := by decide +kernel
theorem dX7_take_92 : decode cX7_take 92 = .ok (.iconst 1, 1) := by decide +kernel
theorem dX7_take_93 : decode cX7_take 93 = .ok (.ireturn, 1) := by decide +kernel
theorem dX7_units_0 : decode cX7_units 0 = .ok (.iload_n 0, 1) := by decide +kernel
theorem dX7_units_1 : decode cX7_units 1 = .ok (.ifCond .ne 7, 3) := by decide +kernel
theorem dX7_units_4 : decode cX7_units 4 = .ok (.iconst 1, 1) := by decide +kernel
theorem dX7_units_5 : decode cX7_units 5 = .ok (.goto 26, 3) := by decide +kernel
theorem dX7_units_8 : decode cX7_units 8 = .ok (.iload_n 0, 1) := by decide +kernel
theorem dX7_units_9 : decode cX7_units 9 = .ok (.iconst 1, 1) := by decide +kernel
theorem dX7_units_10 : decode cX7_units 10 = .ok (.if_icmp .ne 8, 3) := by decide +kernel
theorem dX7_units_13 : decode cX7_units 13 = .ok (.bipush 10, 2) := by decide +kernel
theorem dX7_units_15 : decode cX7_units 15 = .ok (.goto 16, 3) := by decide +kernel
theorem dX7_units_18 : decode cX7_units 18 = .ok (.iload_n 0, 1) := by decide +kernel
theorem dX7_units_19 : decode cX7_units 19 = .ok (.iconst 2, 1) := by decide +kernel
theorem dX7_units_20 : decode cX7_units 20 = .ok (.if_icmp .ne 8, 3) := by decide +kernel
theorem dX7_units_23 : decode cX7_units 23 = .ok (.bipush 100, 2) := by decide +kernel
theorem dX7_units_25 : decode cX7_units 25 = .ok (.goto 6, 3) := by decide +kernel
theorem dX7_units_28 : decode cX7_units 28 = .ok (.sipush 1000, 3) := by decide +kernel
theorem dX7_units_31 : decode cX7_units 31 = .ok (.ireturn, 1) := by decide +kernel
theorem dX7_exponent_0 : decode cX7_exponent 0 = .ok (.lload_n 0, 1) := by decide +kernel
theorem dX7_exponent_1 : decode cX7_exponent 1 = .ok (.bipush 52, 2) := by decide +kernel
theorem dX7_exponent_3 : decode cX7_exponent 3 = .ok (.lushr, 1) := by decide +kernel
theorem dX7_exponent_4 : decode cX7_exponent 4 = .ok (.ldc2_w 83, 3) := by decide +kernel
theorem dX7_exponent_7 : decode cX7_exponent 7 = .ok (.land, 1) := by decide +kernel
theorem dX7_exponent_8 : decode cX7_exponent 8 = .ok (.lreturn, 1) := by decide +kernel
theorem dX7_isNone_0 : decode cX7_isNone 0 = .ok (.lload_n 0, 1) := by decide +kernel
theorem dX7_isNone_1 : decode cX7_isNone 1 = .ok (.invokestatic 85, 3) := by decide +kernel
theorem dX7_isNone_4 : decode cX7_isNone 4 = .ok (.ldc2_w 83, 3) := by decide +kernel
theorem dX7_isNone_7 : decode cX7_isNone 7 = .ok (.lcmp, 1) := by decide +kernel
theorem dX7_isNone_8 : decode cX7_isNone 8 = .ok (.ifCond .ne 17, 3) := by decide +kernel
theorem dX7_isNone_11 : decode cX7_isNone 11 = .ok (.lload_n 0, 1) := by decide +kernel
theorem dX7_isNone_12 : decode cX7_isNone 12 = .ok (.ldc2_w 89, 3) := by decide +kernel
theorem dX7_isNone_15 : decode cX7_isNone 15 = .ok (.land, 1) := by decide +kernel
theorem dX7_isNone_16 : decode cX7_isNone 16 = .ok (.lconst 0, 1) := by decide +kernel
theorem dX7_isNone_17 : decode cX7_isNone 17 = .ok (.lcmp, 1) := by decide +kernel
theorem dX7_isNone_18 : decode cX7_isNone 18 = .ok (.ifCond .eq 7, 3) := by decide +kernel
theorem dX7_isNone_21 : decode cX7_isNone 21 = .ok (.iconst 1, 1) := by decide +kernel
theorem dX7_isNone_22 : decode cX7_isNone 22 = .ok (.goto 4, 3) := by decide +kernel
theorem dX7_isNone_25 : decode cX7_isNone 25 = .ok (.iconst 0, 1) := by decide +kernel
theorem dX7_isNone_26 : decode cX7_isNone 26 = .ok (.ireturn, 1) := by decide +kernel
theorem dX7_round_0 : decode cX7_round 0 = .ok (.lload_n 1, 1) := by decide +kernel
theorem dX7_round_1 : decode cX7_round 1 = .ok (.invokestatic 85, 3) := by decide +kernel
theorem dX7_round_4 : decode cX7_round 4 = .ok (.ldc2_w 83, 3) := by decide +kernel
theorem dX7_round_7 : decode cX7_round 7 = .ok (.lcmp, 1) := by decide +kernel
theorem dX7_round_8 : decode cX7_round 8 = .ok (.ifCond .ne 10, 3) := by decide +kernel
theorem dX7_round_11 : decode cX7_round 11 = .ok (.aload_n 0, 1) := by decide +kernel
theorem dX7_round_12 : decode cX7_round 12 = .ok (.iconst 4, 1) := by decide +kernel
theorem dX7_round_13 : decode cX7_round 13 = .ok (.iload_n 3, 1) := by decide +kernel
theorem dX7_round_14 : decode cX7_round 14 = .ok (.invokevirtual 71, 3) := by decide +kernel
theorem dX7_round_17 : decode cX7_round 17 = .ok (.ireturn, 1) := by decide +kernel
theorem dX7_round_18 : decode cX7_round 18 = .ok (.lload_n 1, 1) := by decide +kernel
theorem dX7_round_19 : decode cX7_round 19 = .ok (.ldc2_w 89, 3) := by decide +kernel
theorem dX7_round_22 : decode cX7_round 22 = .ok (.land, 1) := by decide +kernel
theorem dX7_round_23 : decode cX7_round 23 = .ok (.lload_n 1, 1) := by decide +kernel
theorem dX7_round_24 : decode cX7_round 24 = .ok (.invokestatic 85, 3) := by decide +kernel
theorem dX7_round_27 : decode cX7_round 27 = .ok (.lconst 0, 1) := by decide +kernel
theorem dX7_round_28 : decode cX7_round 28 = .ok (.lcmp, 1) := by decide +kernel
theorem dX7_round_29 : decode cX7_round 29 = .ok (.ifCond .le 9, 3) := by decide +kernel
theorem dX7_round_32 : decode cX7_round 32 = .ok (.ldc2_w 91, 3) := by decide +kernel
theorem dX7_round_35 : decode cX7_round 35 = .ok (.goto 4, 3) := by decide +kernel
theorem dX7_round_38 : decode cX7_round 38 = .ok (.lconst 0, 1) := by decide +kernel
theorem dX7_round_39 : decode cX7_round 39 = .ok (.ladd, 1) := by decide +kernel
theorem dX7_round_40 : decode cX7_round 40 = .ok (.lstore 4, 2) := by decide +kernel
theorem dX7_round_42 : decode cX7_round 42 = .ok (.lload 4, 2) := by decide +kernel
theorem dX7_round_44 : decode cX7_round 44 = .ok (.aload_n 0, 1) := by decide +kernel
theorem dX7_round_45 : decode cX7_round 45 = .ok (.getfield 38, 3) := by decide +kernel
theorem dX7_round_48 : decode cX7_round 48 = .ok (.invokestatic 93, 3) := by decide +kernel
theorem dX7_round_51 : decode cX7_round 51 = .ok (.i2l, 1) := by decide +kernel
theorem dX7_round_52 : decode cX7_round 52 = .ok (.lmul, 1) := by decide +kernel
theorem dX7_round_53 : decode cX7_round 53 = .ok (.lstore 4, 2) := by decide +kernel
theorem dX7_round_55 : decode cX7_round 55 = .ok (.lload_n 1, 1) := by decide +kernel
theorem dX7_round_56 : decode cX7_round 56 = .ok (.invokestatic 85, 3) := by decide +kernel
theorem dX7_round_59 : decode cX7_round 59 = .ok (.lconst 0, 1) := by decide +kernel
theorem dX7_round_60 : decode cX7_round 60 = .ok (.lcmp, 1) := by decide +kernel
theorem dX7_round_61 : decode cX7_round 61 = .ok (.ifCond .le 14, 3) := by decide +kernel
theorem dX7_round_64 : decode cX7_round 64 = .ok (.lload_n 1, 1) := by decide +kernel
theorem dX7_round_65 : decode cX7_round 65 = .ok (.invokestatic 85, 3) := by decide +kernel
theorem dX7_round_68 : decode cX7_round 68 = .ok (.ldc2_w 96, 3) := by decide +kernel
theorem dX7_round_71 : decode cX7_round 71 = .ok (.lsub, 1) := by decide +kernel
theorem dX7_round_72 : decode cX7_round 72 = .ok (.goto 6, 3) := by decide +kernel
theorem dX7_round_75 : decode cX7_round 75 = .ok (.ldc2_w 98, 3) := by decide +kernel
theorem dX7_round_78 : decode cX7_round 78 = .ok (.lstore 6, 2) := by decide +kernel
theorem dX7_round_80 : decode cX7_round 80 = .ok (.lload 6, 2) := by decide +kernel
theorem dX7_round_82 : decode cX7_round 82 = .ok (.lconst 0, 1) := by decide +kernel
theorem dX7_round_83 : decode cX7_round 83 = .ok (.lcmp, 1) := by decide +kernel
theorem dX7_round_84 : decode cX7_round 84 = .ok (.ifCond .le 36, 3) := by decide +kernel
theorem dX7_round_87 : decode cX7_round 87 = .ok (.lload 4, 2) := by decide +kernel
theorem dX7_round_89 : decode cX7_round 89 = .ok (.lconst 0, 1) := by decide +kernel
theorem dX7_round_90 : decode cX7_round 90 = .ok (.lcmp, 1) := by decide +kernel
theorem dX7_round_91 : decode cX7_round 91 = .ok (.ifCond .le 29, 3) := by decide +kernel
theorem dX7_round_94 : decode cX7_round 94 = .ok (.lload 4, 2) := by decide +kernel
theorem dX7_round_96 : decode cX7_round 96 = .ok (.ldc2_w 100, 3) := by decide +kernel
theorem dX7_round_99 : decode cX7_round 99 = .ok (.lcmp, 1) := by decide +kernel
theorem dX7_round_100 : decode cX7_round 100 = .ok (.ifCond .gt 20, 3) := by decide +kernel
theorem dX7_round_103 : decode cX7_round 103 = .ok (.ldc2_w 102, 3) := by decide +kernel
theorem dX7_round_106 : decode cX7_round 106 = .ok (.lload 4, 2) := by decide +kernel
theorem dX7_round_108 : decode cX7_round 108 = .ok (.lmul, 1) := by decide +kernel
theorem dX7_round_109 : decode cX7_round 109 = .ok (.lstore 4, 2) := by decide +kernel
theorem dX7_round_111 : decode cX7_round 111 = .ok (.lload 6, 2) := by decide +kernel
theorem dX7_round_113 : decode cX7_round 113 = .ok (.lconst 1, 1) := by decide +kernel
theorem dX7_round_114 : decode cX7_round 114 = .ok (.lsub, 1) := by decide +kernel
theorem dX7_round_115 : decode cX7_round 115 = .ok (.lstore 6, 2) := by decide +kernel
theorem dX7_round_117 : decode cX7_round 117 = .ok (.goto (-37), 3) := by decide +kernel
theorem dX7_round_120 : decode cX7_round 120 = .ok (.lconst 0, 1) := by decide +kernel
theorem dX7_round_121 : decode cX7_round 121 = .ok (.lstore 8, 2) := by decide +kernel
theorem dX7_round_123 : decode cX7_round 123 = .ok (.iconst 0, 1) := by decide +kernel
theorem dX7_round_124 : decode cX7_round 124 = .ok (.istore 10, 2) := by decide +kernel
theorem dX7_round_126 : decode cX7_round 126 = .ok (.lload 6, 2) := by decide +kernel
theorem dX7_round_128 : decode cX7_round 128 = .ok (.lconst 0, 1) := by decide +kernel
theorem dX7_round_129 : decode cX7_round 129 = .ok (.lcmp, 1) := by decide +kernel
theorem dX7_round_130 : decode cX7_round 130 = .ok (.ifCond .ge 61, 3) := by decide +kernel
theorem dX7_round_133 : decode cX7_round 133 = .ok (.lload 4, 2) := by decide +kernel
theorem dX7_round_135 : decode cX7_round 135 = .ok (.lconst 0, 1) := by decide +kernel
theorem dX7_round_136 : decode cX7_round 136 = .ok (.lcmp, 1) := by decide +kernel
theorem dX7_round_137 : decode cX7_round 137 = .ok (.ifCond .gt 10, 3) := by decide +kernel
theorem dX7_round_140 : decode cX7_round 140 = .ok (.lload 8, 2) := by decide +kernel
theorem dX7_round_142 : decode cX7_round 142 = .ok (.lconst 0, 1) := by decide +kernel
theorem dX7_round_143 : decode cX7_round 143 = .ok (.lcmp, 1) := by decide +kernel
theorem dX7_round_144 : decode cX7_round 144 = .ok (.ifCond .le 47, 3) := by decide +kernel
theorem dX7_round_147 : decode cX7_round 147 = .ok (.iload 10, 2) := by decide +kernel
theorem dX7_round_149 : decode cX7_round 149 = .ok (.ifCond .ne 10, 3) := by decide +kernel
theorem dX7_round_152 : decode cX7_round 152 = .ok (.lload 8, 2) := by decide +kernel
theorem dX7_round_154 : decode cX7_round 154 = .ok (.lconst 0, 1) := by decide +kernel
theorem dX7_round_155 : decode cX7_round 155 = .ok (.lcmp, 1) := by decide +kernel
theorem dX7_round_156 : decode cX7_round 156 = .ok (.ifCond .le 7, 3) := by decide +kernel
theorem dX7_round_159 : decode cX7_round 159 = .ok (.iconst 1, 1) := by decide +kernel
theorem dX7_round_160 : decode cX7_round 160 = .ok (.goto 4, 3) := by decide +kernel
theorem dX7_round_163 : decode cX7_round 163 = .ok (.iconst 0, 1) := by decide +kernel
theorem dX7_round_164 : decode cX7_round 164 = .ok (.istore 10, 2) := by decide +kernel
theorem dX7_round_166 : decode cX7_round 166 = .ok (.lload 4, 2) := by decide +kernel
theorem dX7_round_168 : decode cX7_round 168 = .ok (.ldc2_w 102, 3) := by decide +kernel
theorem dX7_round_171 : decode cX7_round 171 = .ok (.lrem, 1) := by decide +kernel
theorem dX7_round_172 : decode cX7_round 172 = .ok (.lstore 8, 2) := by decide +kernel
theorem dX7_round_174 : decode cX7_round 174 = .ok (.lload 4, 2) := by decide +kernel
theorem dX7_round_176 : decode cX7_round 176 = .ok (.ldc2_w 102, 3) := by decide +kernel
theorem dX7_round_179 : decode cX7_round 179 = .ok (.ldiv, 1) := by decide +kernel
theorem dX7_round_180 : decode cX7_round 180 = .ok (.lstore 4, 2) := by decide +kernel
theorem dX7_round_182 : decode cX7_round 182 = .ok (.lload 6, 2) := by decide +kernel
theorem dX7_round_184 : decode cX7_round 184 = .ok (.lconst 1, 1) := by decide +kernel
theorem dX7_round_185 : decode cX7_round 185 = .ok (.ladd, 1) := by decide +kernel
theorem dX7_round_186 : decode cX7_round 186 = .ok (.lstore 6, 2) := by decide +kernel
theorem dX7_round_188 : decode cX7_round 188 = .ok (.goto (-62), 3) := by decide +kernel
theorem dX7_round_191 : decode cX7_round 191 = .ok (.lload 8, 2) := by decide +kernel
theorem dX7_round_193 : decode cX7_round 193 = .ok (.lconst 0, 1) := by decide +kernel
theorem dX7_round_194 : decode cX7_round 194 = .ok (.lcmp, 1) := by decide +kernel
theorem dX7_round_195 : decode cX7_round 195 = .ok (.ifCond .le 25, 3) := by decide +kernel
theorem dX7_round_198 : decode cX7_round 198 = .ok (.iload 10, 2) := by decide +kernel
theorem dX7_round_200 : decode cX7_round 200 = .ok (.ifCond .ne 14, 3) := by decide +kernel
theorem dX7_round_203 : decode cX7_round 203 = .ok (.lload 4, 2) := by decide +kernel
theorem dX7_round_205 : decode cX7_round 205 = .ok (.ldc2_w 102, 3) := by decide +kernel
theorem dX7_round_208 : decode cX7_round 208 = .ok (.lrem, 1) := by decide +kernel
theorem dX7_round_209 : decode cX7_round 209 = .ok (.lconst 1, 1) := by decide +kernel
theorem dX7_round_210 : decode cX7_round 210 = .ok (.lcmp, 1) := by decide +kernel
theorem dX7_round_211 : decode cX7_round 211 = .ok (.ifCond .ne 9, 3) := by decide +kernel
theorem dX7_round_214 : decode cX7_round 214 = .ok (.lload 4, 2) := by decide +kernel
theorem dX7_round_216 : decode cX7_round 216 = .ok (.lconst 1, 1) := by decide +kernel
theorem dX7_round_217 : decode cX7_round 217 = .ok (.ladd, 1) := by decide +kernel
theorem dX7_round_218 : decode cX7_round 218 = .ok (.lstore 4, 2) := by decide +kernel
theorem dX7_round_220 : decode cX7_round 220 = .ok (.lload 4, 2) := by decide +kernel
theorem dX7_round_222 : decode cX7_round 222 = .ok (.ldc2_w 100, 3) := by decide +kernel
theorem dX7_round_225 : decode cX7_round 225 = .ok (.lcmp, 1) := by decide +kernel
theorem dX7_round_226 : decode cX7_round 226 = .ok (.ifCond .le 10, 3) := by decide +kernel
theorem dX7_round_229 : decode cX7_round 229 = .ok (.aload_n 0, 1) := by decide +kernel
theorem dX7_round_230 : decode cX7_round 230 = .ok (.iconst 5, 1) := by decide +kernel
theorem dX7_round_231 : decode cX7_round 231 = .ok (.iload_n 3, 1) := by decide +kernel
theorem dX7_round_232 : decode cX7_round 232 = .ok (.invokevirtual 71, 3) := by decide +kernel
theorem dX7_round_235 : decode cX7_round 235 = .ok (.ireturn, 1) := by decide +kernel
theorem dX7_round_236 : decode cX7_round 236 = .ok (.aload_n 0, 1) := by decide +kernel
theorem dX7_round_237 : decode cX7_round 237 = .ok (.lload_n 1, 1) := by decide +kernel
theorem dX7_round_238 : decode cX7_round 238 = .ok (.lconst 0, 1) := by decide +kernel
theorem dX7_round_239 : decode cX7_round 239 = .ok (.lcmp, 1) := by decide +kernel
theorem dX7_round_240 : decode cX7_round 240 = .ok (.ifCond .ge 10, 3) := by decide +kernel
theorem dX7_round_243 : decode cX7_round 243 = .ok (.lload 4, 2) := by decide +kernel
theorem dX7_round_245 : decode cX7_round 245 = .ok (.lneg, 1) := by decide +kernel
theorem dX7_round_246 : decode cX7_round 246 = .ok (.l2i, 1) := by decide +kernel
theorem dX7_round_247 : decode cX7_round 247 = .ok (.goto 6, 3) := by decide +kernel
theorem dX7_round_250 : decode cX7_round 250 = .ok (.lload 4, 2) := by decide +kernel
theorem dX7_round_252 : decode cX7_round 252 = .ok (.l2i, 1) := by decide +kernel
theorem dX7_round_253 : decode cX7_round 253 = .ok (.putfield 104, 3) := by decide +kernel
theorem dX7_round_256 : decode cX7_round 256 = .ok (.iconst 1, 1) := by decide +kernel
theorem dX7_round_257 : decode cX7_round 257 = .ok (.ireturn, 1) := by decide +kernel
theorem dX7_room_0 : decode cX7_room 0 = .ok (.aload_n 0, 1) := by decide +kernel
theorem dX7_room_1 : decode cX7_room 1 = .ok (.getfield 17, 3) := by decide +kernel
theorem dX7_room_4 : decode cX7_room 4 = .ok (.aload_n 0, 1) := by decide +kernel
theorem dX7_room_5 : decode cX7_room 5 = .ok (.getfield 107, 3) := by decide +kernel
theorem dX7_room_8 : decode cX7_room 8 = .ok (.iaload, 1) := by decide +kernel
theorem dX7_room_9 : decode cX7_room 9 = .ok (.iload_n 1, 1) := by decide +kernel
theorem dX7_room_10 : decode cX7_room 10 = .ok (.iadd, 1) := by decide +kernel
theorem dX7_room_11 : decode cX7_room 11 = .ok (.aload_n 0, 1) := by decide +kernel
theorem dX7_room_12 : decode cX7_room 12 = .ok (.getfield 45, 3) := by decide +kernel
theorem dX7_room_15 : decode cX7_room 15 = .ok (.if_icmp .gt 25, 3) := by decide +kernel
theorem dX7_room_18 : decode cX7_room 18 = .ok (.aload_n 0, 1) := by decide +kernel
theorem dX7_room_19 : decode cX7_room 19 = .ok (.getfield 24, 3) := by decide +kernel
theorem dX7_room_22 : decode cX7_room 22 = .ok (.aload_n 0, 1) := by decide +kernel
theorem dX7_room_23 : decode cX7_room 23 = .ok (.getfield 107, 3) := by decide +kernel
theorem dX7_room_26 : decode cX7_room 26 = .ok (.iaload, 1) := by decide +kernel
theorem dX7_room_27 : decode cX7_room 27 = .ok (.iload_n 2, 1) := by decide +kernel
theorem dX7_room_28 : decode cX7_room 28 = .ok (.iadd, 1) := by decide +kernel
theorem dX7_room_29 : decode cX7_room 29 = .ok (.aload_n 0, 1) := by decide +kernel
theorem dX7_room_30 : decode cX7_room 30 = .ok (.getfield 42, 3) := by decide +kernel
theorem dX7_room_33 : decode cX7_room 33 = .ok (.if_icmp .gt 7, 3) := by decide +kernel
theorem dX7_room_36 : decode cX7_room 36 = .ok (.iconst 1, 1) := by decide +kernel
theorem dX7_room_37 : decode cX7_room 37 = .ok (.goto 4, 3) := by decide +kernel
theorem dX7_room_40 : decode cX7_room 40 = .ok (.iconst 0, 1) := by decide +kernel
theorem dX7_room_41 : decode cX7_room 41 = .ok (.ireturn, 1) := by decide +kernel
theorem dX7_say_0 : decode cX7_say 0 = .ok (.aload_n 0, 1) := by decide +kernel
theorem dX7_say_1 : decode cX7_say 1 = .ok (.getfield 14, 3) := by decide +kernel
theorem dX7_say_4 : decode cX7_say 4 = .ok (.sipush 4096, 3) := by decide +kernel
theorem dX7_say_7 : decode cX7_say 7 = .ok (.aload_n 0, 1) := by decide +kernel
theorem dX7_say_8 : decode cX7_say 8 = .ok (.getfield 107, 3) := by decide +kernel
theorem dX7_say_11 : decode cX7_say 11 = .ok (.imul, 1) := by decide +kernel
theorem dX7_say_12 : decode cX7_say 12 = .ok (.aload_n 0, 1) := by decide +kernel
theorem dX7_say_13 : decode cX7_say 13 = .ok (.getfield 17, 3) := by decide +kernel
theorem dX7_say_16 : decode cX7_say 16 = .ok (.aload_n 0, 1) := by decide +kernel
theorem dX7_say_17 : decode cX7_say 17 = .ok (.getfield 107, 3) := by decide +kernel
