theorem dX5_putRings_30 : decode cX5_putRings 30 = .ok (.return_, 1) := by decide +kernel
theorem dX5_putCoordinates_0 : decode cX5_putCoordinates 0 = .ok (.iconst 0, 1) := by decide +kernel
theorem dX5_putCoordinates_1 : decode cX5_putCoordinates 1 = .ok (.istore_n 2, 1) := by decide +kernel
theorem dX5_putCoordinates_2 : decode cX5_putCoordinates 2 = .ok (.iload_n 2, 1) := by decide +kernel
theorem dX5_putCoordinates_3 : decode cX5_putCoordinates 3 = .ok (.iload_n 1, 1) := by decide +kernel
theorem dX5_putCoordinates_4 : decode cX5_putCoordinates 4 = .ok (.if_icmp .ge 69, 3) := by decide +kernel
theorem dX5_putCoordinates_7 : decode cX5_putCoordinates 7 = .ok (.aload_n 0, 1) := by decide +kernel
theorem dX5_putCoordinates_8 : decode cX5_putCoordinates 8 = .ok (.aload_n 0, 1) := by decide +kernel
theorem dX5_putCoordinates_9 : decode cX5_putCoordinates 9 = .ok (.getfield 13, 3) := by decide +kernel
theorem dX5_putCoordinates_12 : decode cX5_putCoordinates 12 = .ok (.aload_n 0, 1) := by decide +kernel
theorem dX5_putCoordinates_13 : decode cX5_putCoordinates 13 = .ok (.getfield 27, 3) := by decide +kernel
theorem dX5_putCoordinates_16 : decode cX5_putCoordinates 16 = .ok (.iconst 0, 1) := by decide +kernel
theorem dX5_putCoordinates_17 : decode cX5_putCoordinates 17 = .ok (.invokevirtual 74, 3) := by decide +kernel
theorem dX5_putCoordinates_20 : decode cX5_putCoordinates 20 = .ok (.aload_n 0, 1) := by decide +kernel
theorem dX5_putCoordinates_21 : decode cX5_putCoordinates 21 = .ok (.getfield 7, 3) := by decide +kernel
theorem dX5_putCoordinates_24 : decode cX5_putCoordinates 24 = .ok (.invokestatic 78, 3) := by decide +kernel
theorem dX5_putCoordinates_27 : decode cX5_putCoordinates 27 = .ok (.bipush 8, 2) := by decide +kernel
theorem dX5_putCoordinates_29 : decode cX5_putCoordinates 29 = .ok (.invokevirtual 52, 3) := by decide +kernel
theorem dX5_putCoordinates_32 : decode cX5_putCoordinates 32 = .ok (.aload_n 0, 1) := by decide +kernel
theorem dX5_putCoordinates_33 : decode cX5_putCoordinates 33 = .ok (.aload_n 0, 1) := by decide +kernel
theorem dX5_putCoordinates_34 : decode cX5_putCoordinates 34 = .ok (.getfield 13, 3) := by decide +kernel
theorem dX5_putCoordinates_37 : decode cX5_putCoordinates 37 = .ok (.aload_n 0, 1) := by decide +kernel
theorem dX5_putCoordinates_38 : decode cX5_putCoordinates 38 = .ok (.getfield 27, 3) := by decide +kernel
theorem dX5_putCoordinates_41 : decode cX5_putCoordinates 41 = .ok (.iconst 1, 1) := by decide +kernel
theorem dX5_putCoordinates_42 : decode cX5_putCoordinates 42 = .ok (.invokevirtual 74, 3) := by decide +kernel
theorem dX5_putCoordinates_45 : decode cX5_putCoordinates 45 = .ok (.aload_n 0, 1) := by decide +kernel
theorem dX5_putCoordinates_46 : decode cX5_putCoordinates 46 = .ok (.getfield 7, 3) := by decide +kernel
theorem dX5_putCoordinates_49 : decode cX5_putCoordinates 49 = .ok (.invokestatic 78, 3) := by decide +kernel
theorem dX5_putCoordinates_52 : decode cX5_putCoordinates 52 = .ok (.bipush 8, 2) := by decide +kernel
theorem dX5_putCoordinates_54 : decode cX5_putCoordinates 54 = .ok (.invokevirtual 52, 3) := by decide +kernel
theorem dX5_putCoordinates_57 : decode cX5_putCoordinates 57 = .ok (.aload_n 0, 1) := by decide +kernel
theorem dX5_putCoordinates_58 : decode cX5_putCoordinates 58 = .ok (.dup, 1) := by decide +kernel
theorem dX5_putCoordinates_59 : decode cX5_putCoordinates 59 = .ok (.getfield 27, 3) := by decide +kernel
theorem dX5_putCoordinates_62 : decode cX5_putCoordinates 62 = .ok (.iconst 1, 1) := by decide +kernel
theorem dX5_putCoordinates_63 : decode cX5_putCoordinates 63 = .ok (.iadd, 1) := by decide +kernel
theorem dX5_putCoordinates_64 : decode cX5_putCoordinates 64 = .ok (.putfield 27, 3) := by decide +kernel
theorem dX5_putCoordinates_67 : decode cX5_putCoordinates 67 = .ok (.iinc 2 1, 3) := by decide +kernel
theorem dX5_putCoordinates_70 : decode cX5_putCoordinates 70 = .ok (.goto (-68), 3) := by decide +kernel
theorem dX5_putCoordinates_73 : decode cX5_putCoordinates 73 = .ok (.return_, 1) := by decide +kernel
theorem dX6_init_0 : decode cX6_init 0 = .ok (.aload_n 0, 1) := by decide +kernel
theorem dX6_init_1 : decode cX6_init 1 = .ok (.invokespecial 1, 3) := by decide +kernel
theorem dX6_init_4 : decode cX6_init 4 = .ok (.aload_n 0, 1) := by decide +kernel
theorem dX6_init_5 : decode cX6_init 5 = .ok (.iconst 4, 1) := by decide +kernel
theorem dX6_init_6 : decode cX6_init 6 = .ok (.anewarray 9, 3) := by decide +kernel
theorem dX6_init_9 : decode cX6_init 9 = .ok (.putfield 11, 3) := by decide +kernel
theorem dX6_init_12 : decode cX6_init 12 = .ok (.aload_n 0, 1) := by decide +kernel
theorem dX6_init_13 : decode cX6_init 13 = .ok (.new 15, 3) := by decide +kernel
theorem dX6_init_16 : decode cX6_init 16 = .ok (.dup, 1) := by decide +kernel
theorem dX6_init_17 : decode cX6_init 17 = .ok (.ldc 17, 2) := by decide +kernel
theorem dX6_init_19 : decode cX6_init 19 = .ok (.invokespecial 18, 3) := by decide +kernel
theorem dX6_init_22 : decode cX6_init 22 = .ok (.putfield 21, 3) := by decide +kernel
theorem dX6_init_25 : decode cX6_init 25 = .ok (.aload_n 0, 1) := by decide +kernel
theorem dX6_init_26 : decode cX6_init 26 = .ok (.new 15, 3) := by decide +kernel
theorem dX6_init_29 : decode cX6_init 29 = .ok (.dup, 1) := by decide +kernel
theorem dX6_init_30 : decode cX6_init 30 = .ok (.ldc 17, 2) := by decide +kernel
theorem dX6_init_32 : decode cX6_init 32 = .ok (.invokespecial 18, 3) := by decide +kernel
theorem dX6_init_35 : decode cX6_init 35 = .ok (.putfield 25, 3) := by decide +kernel
theorem dX6_init_38 : decode cX6_init 38 = .ok (.getstatic 28, 3) := by decide +kernel
theorem dX6_init_41 : decode cX6_init 41 = .ok (.iload_n 1, 1) := by decide +kernel
theorem dX6_init_42 : decode cX6_init 42 = .ok (.iconst 3, 1) := by decide +kernel
theorem dX6_init_43 : decode cX6_init 43 = .ok (.iand, 1) := by decide +kernel
theorem dX6_init_44 : decode cX6_init 44 = .ok (.iaload, 1) := by decide +kernel
theorem dX6_init_45 : decode cX6_init 45 = .ok (.istore 4, 2) := by decide +kernel
theorem dX6_init_47 : decode cX6_init 47 = .ok (.iconst 1, 1) := by decide +kernel
theorem dX6_init_48 : decode cX6_init 48 = .ok (.iload_n 2, 1) := by decide +kernel
theorem dX6_init_49 : decode cX6_init 49 = .ok (.sipush 4096, 3) := by decide +kernel
theorem dX6_init_52 : decode cX6_init 52 = .ok (.invokestatic 32, 3) := by decide +kernel
theorem dX6_init_55 : decode cX6_init 55 = .ok (.istore 5, 2) := by decide +kernel
theorem dX6_init_57 : decode cX6_init 57 = .ok (.iconst 2, 1) := by decide +kernel
theorem dX6_init_58 : decode cX6_init 58 = .ok (.iload_n 3, 1) := by decide +kernel
theorem dX6_init_59 : decode cX6_init 59 = .ok (.sipush 4096, 3) := by decide +kernel
theorem dX6_init_62 : decode cX6_init 62 = .ok (.invokestatic 32, 3) := by decide +kernel
theorem dX6_init_65 : decode cX6_init 65 = .ok (.istore 6, 2) := by decide +kernel
theorem dX6_init_67 : decode cX6_init 67 = .ok (.iconst 0, 1) := by decide +kernel
theorem dX6_init_68 : decode cX6_init 68 = .ok (.istore 7, 2) := by decide +kernel
theorem dX6_init_70 : decode cX6_init 70 = .ok (.iload 7, 2) := by decide +kernel
theorem dX6_init_72 : decode cX6_init 72 = .ok (.iconst 4, 1) := by decide +kernel
theorem dX6_init_73 : decode cX6_init 73 = .ok (.if_icmp .ge 27, 3) := by decide +kernel
theorem dX6_init_76 : decode cX6_init 76 = .ok (.aload_n 0, 1) := by decide +kernel
theorem dX6_init_77 : decode cX6_init 77 = .ok (.getfield 11, 3) := by decide +kernel
theorem dX6_init_80 : decode cX6_init 80 = .ok (.iload 7, 2) := by decide +kernel
theorem dX6_init_82 : decode cX6_init 82 = .ok (.new 9, 3) := by decide +kernel
theorem dX6_init_85 : decode cX6_init 85 = .ok (.dup, 1) := by decide +kernel
theorem dX6_init_86 : decode cX6_init 86 = .ok (.iload 5, 2) := by decide +kernel
theorem dX6_init_88 : decode cX6_init 88 = .ok (.iload 6, 2) := by decide +kernel
theorem dX6_init_90 : decode cX6_init 90 = .ok (.invokespecial 36, 3) := by decide +kernel
theorem dX6_init_93 : decode cX6_init 93 = .ok (.aastore, 1) := by decide +kernel
theorem dX6_init_94 : decode cX6_init 94 = .ok (.iinc 7 1, 3) := by decide +kernel
theorem dX6_init_97 : decode cX6_init 97 = .ok (.goto (-27), 3) := by decide +kernel
theorem dX6_init_100 : decode cX6_init 100 = .ok (.aload_n 0, 1) := by decide +kernel
theorem dX6_init_101 : decode cX6_init 101 = .ok (.new 39, 3) := by decide +kernel
theorem dX6_init_104 : decode cX6_init 104 = .ok (.dup, 1) := by decide +kernel
theorem dX6_init_105 : decode cX6_init 105 = .ok (.iload 4, 2) := by decide +kernel
theorem dX6_init_107 : decode cX6_init 107 = .ok (.invokespecial 41, 3) := by decide +kernel
theorem dX6_init_110 : decode cX6_init 110 = .ok (.putfield 42, 3) := by decide +kernel
theorem dX6_init_113 : decode cX6_init 113 = .ok (.aload_n 0, 1) := by decide +kernel
theorem dX6_init_114 : decode cX6_init 114 = .ok (.new 46, 3) := by decide +kernel
theorem dX6_init_117 : decode cX6_init 117 = .ok (.dup, 1) := by decide +kernel
theorem dX6_init_118 : decode cX6_init 118 = .ok (.iload 4, 2) := by decide +kernel
theorem dX6_init_120 : decode cX6_init 120 = .ok (.invokespecial 48, 3) := by decide +kernel
theorem dX6_init_123 : decode cX6_init 123 = .ok (.putfield 49, 3) := by decide +kernel
theorem dX6_init_126 : decode cX6_init 126 = .ok (.return_, 1) := by decide +kernel
theorem dX6_feed_0 : decode cX6_feed 0 = .ok (.aload_n 0, 1) := by decide +kernel
theorem dX6_feed_1 : decode cX6_feed 1 = .ok (.getfield 21, 3) := by decide +kernel
theorem dX6_feed_4 : decode cX6_feed 4 = .ok (.invokevirtual 53, 3) := by decide +kernel
theorem dX6_feed_7 : decode cX6_feed 7 = .ok (.ldc 57, 2) := by decide +kernel
theorem dX6_feed_9 : decode cX6_feed 9 = .ok (.if_icmp .le 13, 3) := by decide +kernel
theorem dX6_feed_12 : decode cX6_feed 12 = .ok (.new 58, 3) := by decide +kernel
theorem dX6_feed_15 : decode cX6_feed 15 = .ok (.dup, 1) := by decide +kernel
theorem dX6_feed_16 : decode cX6_feed 16 = .ok (.ldc 60, 2) := by decide +kernel
theorem dX6_feed_18 : decode cX6_feed 18 = .ok (.invokespecial 62, 3) := by decide +kernel
theorem dX6_feed_21 : decode cX6_feed 21 = .ok (.athrow, 1) := by decide +kernel
theorem dX6_feed_22 : decode cX6_feed 22 = .ok (.aload_n 0, 1) := by decide +kernel
theorem dX6_feed_23 : decode cX6_feed 23 = .ok (.getfield 21, 3) := by decide +kernel
theorem dX6_feed_26 : decode cX6_feed 26 = .ok (.iload_n 1, 1) := by decide +kernel
theorem dX6_feed_27 : decode cX6_feed 27 = .ok (.i2l, 1) := by decide +kernel
theorem dX6_feed_28 : decode cX6_feed 28 = .ok (.iconst 4, 1) := by decide +kernel
theorem dX6_feed_29 : decode cX6_feed 29 = .ok (.iconst 0, 1) := by decide +kernel
theorem dX6_feed_30 : decode cX6_feed 30 = .ok (.invokevirtual 65, 3) := by decide +kernel
theorem dX6_feed_33 : decode cX6_feed 33 = .ok (.aload_n 0, 1) := by decide +kernel
theorem dX6_feed_34 : decode cX6_feed 34 = .ok (.getfield 21, 3) := by decide +kernel
theorem dX6_feed_37 : decode cX6_feed 37 = .ok (.iload_n 2, 1) := by decide +kernel
theorem dX6_feed_38 : decode cX6_feed 38 = .ok (.i2l, 1) := by decide +kernel
theorem dX6_feed_39 : decode cX6_feed 39 = .ok (.iconst 4, 1) := by decide +kernel
theorem dX6_feed_40 : decode cX6_feed 40 = .ok (.iconst 0, 1) := by decide +kernel
theorem dX6_feed_41 : decode cX6_feed 41 = .ok (.invokevirtual 65, 3) := by decide +kernel
theorem dX6_feed_44 : decode cX6_feed 44 = .ok (.aload_n 0, 1) := by decide +kernel
theorem dX6_feed_45 : decode cX6_feed 45 = .ok (.getfield 21, 3) := by decide +kernel
theorem dX6_feed_48 : decode cX6_feed 48 = .ok (.iload_n 3, 1) := by decide +kernel
theorem dX6_feed_49 : decode cX6_feed 49 = .ok (.i2l, 1) := by decide +kernel
theorem dX6_feed_50 : decode cX6_feed 50 = .ok (.iconst 4, 1) := by decide +kernel
theorem dX6_feed_51 : decode cX6_feed 51 = .ok (.iconst 0, 1) := by decide +kernel
theorem dX6_feed_52 : decode cX6_feed 52 = .ok (.invokevirtual 65, 3) := by decide +kernel
theorem dX6_feed_55 : decode cX6_feed 55 = .ok (.aload_n 0, 1) := by decide +kernel
theorem dX6_feed_56 : decode cX6_feed 56 = .ok (.getfield 21, 3) := by decide +kernel
theorem dX6_feed_59 : decode cX6_feed 59 = .ok (.iload 4, 2) := by decide +kernel
theorem dX6_feed_61 : decode cX6_feed 61 = .ok (.i2l, 1) := by decide +kernel
theorem dX6_feed_62 : decode cX6_feed 62 = .ok (.iconst 4, 1) := by decide +kernel
theorem dX6_feed_63 : decode cX6_feed 63 = .ok (.iconst 0, 1) := by decide +kernel
theorem dX6_feed_64 : decode cX6_feed 64 = .ok (.invokevirtual 65, 3) := by decide +kernel
theorem dX6_feed_67 : decode cX6_feed 67 = .ok (.aload_n 0, 1) := by decide +kernel
theorem dX6_feed_68 : decode cX6_feed 68 = .ok (.getfield 21, 3) := by decide +kernel
theorem dX6_feed_71 : decode cX6_feed 71 = .ok (.iload 5, 2) := by decide +kernel
theorem dX6_feed_73 : decode cX6_feed 73 = .ok (.i2l, 1) := by decide +kernel
theorem dX6_feed_74 : decode cX6_feed 74 = .ok (.iconst 4, 1) := by decide +kernel
theorem dX6_feed_75 : decode cX6_feed 75 = .ok (.iconst 0, 1) := by decide +kernel
theorem dX6_feed_76 : decode cX6_feed 76 = .ok (.invokevirtual 65, 3) := by decide +kernel
theorem dX6_feed_79 : decode cX6_feed 79 = .ok (.aload_n 0, 1) := by decide +kernel
theorem dX6_feed_80 : decode cX6_feed 80 = .ok (.getfield 21, 3) := by decide +kernel
theorem dX6_feed_83 : decode cX6_feed 83 = .ok (.invokevirtual 53, 3) := by decide +kernel
theorem dX6_feed_86 : decode cX6_feed 86 = .ok (.ireturn, 1) := by decide +kernel
theorem dX6_end_0 : decode cX6_end 0 = .ok (.iload_n 1, 1) := by decide +kernel
theorem dX6_end_1 : decode cX6_end 1 = .ok (.ifCond .lt 9, 3) := by decide +kernel
theorem dX6_end_4 : decode cX6_end 4 = .ok (.iload_n 1, 1) := by decide +kernel
theorem dX6_end_5 : decode cX6_end 5 = .ok (.bipush 20, 2) := by decide +kernel
theorem dX6_end_7 : decode cX6_end 7 = .ok (.if_icmp .le 13, 3) := by decide +kernel
theorem dX6_end_10 : decode cX6_end 10 = .ok (.new 69, 3) := by decide +kernel
theorem dX6_end_13 : decode cX6_end 13 = .ok (.dup, 1) := by decide +kernel
theorem dX6_end_14 : decode cX6_end 14 = .ok (.ldc 71, 2) := by decide +kernel
theorem dX6_end_16 : decode cX6_end 16 = .ok (.invokespecial 73, 3) := by decide +kernel
theorem dX6_end_19 : decode cX6_end 19 = .ok (.athrow, 1) := by decide +kernel
theorem dX6_end_20 : decode cX6_end 20 = .ok (.aload_n 0, 1) := by decide +kernel
theorem dX6_end_21 : decode cX6_end 21 = .ok (.getfield 21, 3) := by decide +kernel
theorem dX6_end_24 : decode cX6_end 24 = .ok (.invokevirtual 53, 3) := by decide +kernel
theorem dX6_end_27 : decode cX6_end 27 = .ok (.bipush 20, 2) := by decide +kernel
theorem dX6_end_29 : decode cX6_end 29 = .ok (.if_icmp .ge 13, 3) := by decide +kernel
theorem dX6_end_32 : decode cX6_end 32 = .ok (.new 58, 3) := by decide +kernel
theorem dX6_end_35 : decode cX6_end 35 = .ok (.dup, 1) := by decide +kernel
theorem dX6_end_36 : decode cX6_end 36 = .ok (.ldc 74, 2) := by decide +kernel
theorem dX6_end_38 : decode cX6_end 38 = .ok (.invokespecial 62, 3) := by decide +kernel
theorem dX6_end_41 : decode cX6_end 41 = .ok (.athrow, 1) := by decide +kernel
theorem dX6_end_42 : decode cX6_end 42 = .ok (.aload_n 0, 1) := by decide +kernel
theorem dX6_end_43 : decode cX6_end 43 = .ok (.getfield 21, 3) := by decide +kernel
theorem dX6_end_46 : decode cX6_end 46 = .ok (.aload_n 0, 1) := by decide +kernel
theorem dX6_end_47 : decode cX6_end 47 = .ok (.getfield 21, 3) := by decide +kernel
theorem dX6_end_50 : decode cX6_end 50 = .ok (.invokevirtual 53, 3) := by decide +kernel
theorem dX6_end_53 : decode cX6_end 53 = .ok (.bipush 20, 2) := by decide +kernel
theorem dX6_end_55 : decode cX6_end 55 = .ok (.isub, 1) := by decide +kernel
theorem dX6_end_56 : decode cX6_end 56 = .ok (.iload_n 1, 1) := by decide +kernel
theorem dX6_end_57 : decode cX6_end 57 = .ok (.iadd, 1) := by decide +kernel
theorem dX6_end_58 : decode cX6_end 58 = .ok (.invokevirtual 76, 3) := by decide +kernel
theorem dX6_end_61 : decode cX6_end 61 = .ok (.aload_n 0, 1) := by decide +kernel
theorem dX6_end_62 : decode cX6_end 62 = .ok (.getfield 21, 3) := by decide +kernel
theorem dX6_end_65 : decode cX6_end 65 = .ok (.invokevirtual 53, 3) := by decide +kernel
theorem dX6_end_68 : decode cX6_end 68 = .ok (.ireturn, 1) := by decide +kernel
theorem dX6_read_0 : decode cX6_read 0 = .ok (.iload_n 1, 1) := by decide +kernel
theorem dX6_read_1 : decode cX6_read 1 = .ok (.invokestatic 79, 3) := by decide +kernel
theorem dX6_read_4 : decode cX6_read 4 = .ok (.istore_n 2, 1) := by decide +kernel
theorem dX6_read_5 : decode cX6_read 5 = .ok (.iload_n 2, 1) := by decide +kernel
theorem dX6_read_6 : decode cX6_read 6 = .ok (.ifCond .eq 27, 3) := by decide +kernel
theorem dX6_read_9 : decode cX6_read 9 = .ok (.aload_n 0, 1) := by decide +kernel
theorem dX6_read_10 : decode cX6_read 10 = .ok (.getfield 42, 3) := by decide +kernel
theorem dX6_read_13 : decode cX6_read 13 = .ok (.aload_n 0, 1) := by decide +kernel
theorem dX6_read_14 : decode cX6_read 14 = .ok (.getfield 21, 3) := by decide +kernel
theorem dX6_read_17 : decode cX6_read 17 = .ok (.aload_n 0, 1) := by decide +kernel
theorem dX6_read_18 : decode cX6_read 18 = .ok (.getfield 11, 3) := by decide +kernel
theorem dX6_read_21 : decode cX6_read 21 = .ok (.iload_n 1, 1) := by decide +kernel
theorem dX6_read_22 : decode cX6_read 22 = .ok (.aaload, 1) := by decide +kernel
theorem dX6_read_23 : decode cX6_read 23 = .ok (.invokevirtual 83, 3) := by decide +kernel
theorem dX6_read_26 : decode cX6_read 26 = .ok (.ifCond .eq 7, 3) := by decide +kernel
theorem dX6_read_29 : decode cX6_read 29 = .ok (.iconst 1, 1) := by decide +kernel
theorem dX6_read_30 : decode cX6_read 30 = .ok (.goto 4, 3) := by decide +kernel
theorem dX6_read_33 : decode cX6_read 33 = .ok (.iconst 0, 1) := by decide +kernel
theorem dX6_read_34 : decode cX6_read 34 = .ok (.istore_n 3, 1) := by decide +kernel
theorem dX6_read_35 : decode cX6_read 35 = .ok (.aload_n 0, 1) := by decide +kernel
theorem dX6_read_36 : decode cX6_read 36 = .ok (.getfield 21, 3) := by decide +kernel
theorem dX6_read_39 : decode cX6_read 39 = .ok (.iconst 0, 1) := by decide +kernel
theorem dX6_read_40 : decode cX6_read 40 = .ok (.invokevirtual 76, 3) := by decide +kernel
theorem dX6_read_43 : decode cX6_read 43 = .ok (.iload_n 2, 1) := by decide +kernel
theorem dX6_read_44 : decode cX6_read 44 = .ok (.ifCond .ne 13, 3) := by decide +kernel
theorem dX6_read_47 : decode cX6_read 47 = .ok (.new 87, 3) := by decide +kernel
theorem dX6_read_50 : decode cX6_read 50 = .ok (.dup, 1) := by decide +kernel
theorem dX6_read_51 : decode cX6_read 51 = .ok (.ldc 89, 2) := by decide +kernel
theorem dX6_read_53 : decode cX6_read 53 = .ok (.invokespecial 91, 3) := by decide +kernel
theorem dX6_read_56 : decode cX6_read 56 = .ok (.athrow, 1) := by decide +kernel
theorem dX6_read_57 : decode cX6_read 57 = .ok (.iload_n 3, 1) := by decide +kernel
theorem dX6_read_58 : decode cX6_read 58 = .ok (.ifCond .ne 13, 3) := by decide +kernel
theorem dX6_read_61 : decode cX6_read 61 = .ok (.new 69, 3) := by decide +kernel
theorem dX6_read_64 : decode cX6_read 64 = .ok (.dup, 1) := by decide +kernel
theorem dX6_read_65 : decode cX6_read 65 = .ok (.ldc 92, 2) := by decide +kernel
theorem dX6_read_67 : decode cX6_read 67 = .ok (.invokespecial 73, 3) := by decide +kernel
theorem dX6_read_70 : decode cX6_read 70 = .ok (.athrow, 1) := by decide +kernel
theorem dX6_read_71 : decode cX6_read 71 = .ok (.aload_n 0, 1) := by decide +kernel
theorem dX6_read_72 : decode cX6_read 72 = .ok (.getfield 11, 3) := by decide +kernel
theorem dX6_read_75 : decode cX6_read 75 = .ok (.iload_n 1, 1) := by decide +kernel
theorem dX6_read_76 : decode cX6_read 76 = .ok (.aaload, 1) := by decide +kernel
theorem dX6_read_77 : decode cX6_read 77 = .ok (.iconst 0, 1) := by decide +kernel
theorem dX6_read_78 : decode cX6_read 78 = .ok (.invokevirtual 94, 3) := by decide +kernel
theorem dX6_read_81 : decode cX6_read 81 = .ok (.ireturn, 1) := by decide +kernel
theorem dX6_fault_0 : decode cX6_fault 0 = .ok (.iload_n 1, 1) := by decide +kernel
theorem dX6_fault_1 : decode cX6_fault 1 = .ok (.ifCond .lt 8, 3) := by decide +kernel
theorem dX6_fault_4 : decode cX6_fault 4 = .ok (.iload_n 1, 1) := by decide +kernel
theorem dX6_fault_5 : decode cX6_fault 5 = .ok (.iconst 1, 1) := by decide +kernel
theorem dX6_fault_6 : decode cX6_fault 6 = .ok (.if_icmp .le 13, 3) := by decide +kernel
theorem dX6_fault_9 : decode cX6_fault 9 = .ok (.new 87, 3) := by decide +kernel
theorem dX6_fault_12 : decode cX6_fault 12 = .ok (.dup, 1) := by decide +kernel
theorem dX6_fault_13 : decode cX6_fault 13 = .ok (.ldc 98, 2) := by decide +kernel
theorem dX6_fault_15 : decode cX6_fault 15 = .ok (.invokespecial 91, 3) := by decide +kernel
theorem dX6_fault_18 : decode cX6_fault 18 = .ok (.athrow, 1) := by decide +kernel
theorem dX6_fault_19 : decode cX6_fault 19 = .ok (.iload_n 1, 1) := by decide +kernel
theorem dX6_fault_20 : decode cX6_fault 20 = .ok (.ifCond .ne 13, 3) := by decide +kernel
theorem dX6_fault_23 : decode cX6_fault 23 = .ok (.aload_n 0, 1) := by decide +kernel
theorem dX6_fault_24 : decode cX6_fault 24 = .ok (.getfield 42, 3) := by decide +kernel
theorem dX6_fault_27 : decode cX6_fault 27 = .ok (.invokevirtual 100, 3) := by decide +kernel
theorem dX6_fault_30 : decode cX6_fault 30 = .ok (.goto 10, 3) := by decide +kernel
theorem dX6_fault_33 : decode cX6_fault 33 = .ok (.aload_n 0, 1) := by decide +kernel
theorem dX6_fault_34 : decode cX6_fault 34 = .ok (.getfield 42, 3) := by decide +kernel
theorem dX6_fault_37 : decode cX6_fault 37 = .ok (.invokevirtual 103, 3) := by decide +kernel
theorem dX6_fault_40 : decode cX6_fault 40 = .ok (.ireturn, 1) := by decide +kernel
theorem dX6_write_0 : decode cX6_write 0 = .ok (.aload_n 0, 1) := by decide +kernel
theorem dX6_write_1 : decode cX6_write 1 = .ok (.iload_n 1, 1) := by decide +kernel
theorem dX6_write_2 : decode cX6_write 2 = .ok (.invokevirtual 106, 3) := by decide +kernel
theorem dX6_write_5 : decode cX6_write 5 = .ok (.astore_n 3, 1) := by decide +kernel
theorem dX6_write_6 : decode cX6_write 6 = .ok (.iload_n 2, 1) := by decide +kernel
theorem dX6_write_7 : decode cX6_write 7 = .ok (.ifCond .lt 8, 3) := by decide +kernel
theorem dX6_write_10 : decode cX6_write 10 = .ok (.iload_n 2, 1) := by decide +kernel
theorem dX6_write_11 : decode cX6_write 11 = .ok (.iconst 1, 1) := by decide +kernel
theorem dX6_write_12 : decode cX6_write 12 = .ok (.if_icmp .le 13, 3) := by decide +kernel
theorem dX6_write_15 : decode cX6_write 15 = .ok (.new 69, 3) := by decide +kernel
theorem dX6_write_18 : decode cX6_write 18 = .ok (.dup, 1) := by decide +kernel
theorem dX6_write_19 : decode cX6_write 19 = .ok (.ldc 110, 2) := by decide +kernel
theorem dX6_write_21 : decode cX6_write 21 = .ok (.invokespecial 73, 3) := by decide +kernel
theorem dX6_write_24 : decode cX6_write 24 = .ok (.athrow, 1) := by decide +kernel
theorem dX6_write_25 : decode cX6_write 25 = .ok (.aload_n 3, 1) := by decide +kernel
theorem dX6_write_26 : decode cX6_write 26 = .ok (.invokevirtual 112, 3) := by decide +kernel
theorem dX6_write_29 : decode cX6_write 29 = .ok (.ifCond .ne 13, 3) := by decide +kernel
theorem dX6_write_32 : decode cX6_write 32 = .ok (.new 58, 3) := by decide +kernel
theorem dX6_write_35 : decode cX6_write 35 = .ok (.dup, 1) := by decide +kernel
theorem dX6_write_36 : decode cX6_write 36 = .ok (.ldc 115, 2) := by decide +kernel
theorem dX6_write_38 : decode cX6_write 38 = .ok (.invokespecial 62, 3) := by decide +kernel
theorem dX6_write_41 : decode cX6_write 41 = .ok (.athrow, 1) := by decide +kernel
theorem dX6_write_42 : decode cX6_write 42 = .ok (.aload_n 0, 1) := by decide +kernel
theorem dX6_write_43 : decode cX6_write 43 = .ok (.getfield 49, 3) := by decide +kernel
theorem dX6_write_46 : decode cX6_write 46 = .ok (.aload_n 3, 1) := by decide +kernel
theorem dX6_write_47 : decode cX6_write 47 = .ok (.aload_n 0, 1) := by decide +kernel
theorem dX6_write_48 : decode cX6_write 48 = .ok (.getfield 25, 3) := by decide +kernel
theorem dX6_write_51 : decode cX6_write 51 = .ok (.iload_n 2, 1) := by decide +kernel
theorem dX6_write_52 : decode cX6_write 52 = .ok (.invokevirtual 117, 3) := by decide +kernel
theorem dX6_write_55 : decode cX6_write 55 = .ok (.aload_n 0, 1) := by decide +kernel
theorem dX6_write_56 : decode cX6_write 56 = .ok (.getfield 25, 3) := by decide +kernel
theorem dX6_write_59 : decode cX6_write 59 = .ok (.invokevirtual 53, 3) := by decide +kernel
theorem dX6_write_62 : decode cX6_write 62 = .ok (.ireturn, 1) := by decide +kernel
theorem dX6_again_0 : decode cX6_again 0 = .ok (.aload_n 0, 1) := by decide +kernel
theorem dX6_again_1 : decode cX6_again 1 = .ok (.getfield 21, 3) := by decide +kernel
theorem dX6_again_4 : decode cX6_again 4 = .ok (.aload_n 0, 1) := by decide +kernel
theorem dX6_again_5 : decode cX6_again 5 = .ok (.getfield 25, 3) := by decide +kernel
theorem dX6_again_8 : decode cX6_again 8 = .ok (.invokevirtual 121, 3) := by decide +kernel
theorem dX6_again_11 : decode cX6_again 11 = .ok (.aload_n 0, 1) := by decide +kernel
theorem dX6_again_12 : decode cX6_again 12 = .ok (.getfield 21, 3) := by decide +kernel
theorem dX6_again_15 : decode cX6_again 15 = .ok (.invokevirtual 53, 3) := by decide +kernel
theorem dX6_again_18 : decode cX6_again 18 = .ok (.ireturn, 1) := by decide +kernel
theorem dX6_same_0 : decode cX6_same 0 = .ok (.aload_n 0, 1) := by decide +kernel
theorem dX6_same_1 : decode cX6_same 1 = .ok (.iload_n 1, 1) := by decide +kernel
theorem dX6_same_2 : decode cX6_same 2 = .ok (.invokevirtual 106, 3) := by decide +kernel
theorem dX6_same_5 : decode cX6_same 5 = .ok (.astore_n 3, 1) := by decide +kernel
theorem dX6_same_6 : decode cX6_same 6 = .ok (.aload_n 0, 1) := by decide +kernel
theorem dX6_same_7 : decode cX6_same 7 = .ok (.iload_n 2, 1) := by decide +kernel
theorem dX6_same_8 : decode cX6_same 8 = .ok (.invokevirtual 106, 3) := by decide +kernel
theorem dX6_same_11 : decode cX6_same 11 = .ok (.astore 4, 2) := by decide +kernel
theorem dX6_same_13 : decode cX6_same 13 = .ok (.aload_n 3, 1) := by decide +kernel
theorem dX6_same_14 : decode cX6_same 14 = .ok (.aload 4, 2) := by decide +kernel
theorem dX6_same_16 : decode cX6_same 16 = .ok (.invokevirtual 125, 3) := by decide +kernel
theorem dX6_same_19 : decode cX6_same 19 = .ok (.ireturn, 1) := by decide +kernel
theorem dX6_plan_0 : decode cX6_plan 0 = .ok (.aload_n 0, 1) := by decide +kernel
theorem dX6_plan_1 : decode cX6_plan 1 = .ok (.iload_n 1, 1) := by decide +kernel
theorem dX6_plan_2 : decode cX6_plan 2 = .ok (.invokevirtual 106, 3) := by decide +kernel
theorem dX6_plan_5 : decode cX6_plan 5 = .ok (.iload_n 2, 1) := by decide +kernel
theorem dX6_plan_6 : decode cX6_plan 6 = .ok (.invokevirtual 94, 3) := by decide +kernel
theorem dX6_plan_9 : decode cX6_plan 9 = .ok (.ireturn, 1) := by decide +kernel
theorem dX6_ordinate_0 : decode cX6_ordinate 0 = .ok (.aload_n 0, 1) := by decide +kernel
theorem dX6_ordinate_1 : decode cX6_ordinate 1 = .ok (.iload_n 1, 1) := by decide +kernel
theorem dX6_ordinate_2 : decode cX6_ordinate 2 = .ok (.invokevirtual 106, 3) := by decide +kernel
theorem dX6_ordinate_5 : decode cX6_ordinate 5 = .ok (.iload_n 2, 1) := by decide +kernel
theorem dX6_ordinate_6 : decode cX6_ordinate 6 = .ok (.iload_n 3, 1) := by decide +kernel
theorem dX6_ordinate_7 : decode cX6_ordinate 7 = .ok (.invokevirtual 129, 3) := by decide +kernel
theorem dX6_ordinate_10 : decode cX6_ordinate 10 = .ok (.ireturn, 1) := by decide +kernel
theorem dX6_byteAt_0 : decode cX6_byteAt 0 = .ok (.aload_n 0, 1) := by decide +kernel
theorem dX6_byteAt_1 : decode cX6_byteAt 1 = .ok (.getfield 25, 3) := by decide +kernel
theorem dX6_byteAt_4 : decode cX6_byteAt 4 = .ok (.iload_n 1, 1) := by decide +kernel
theorem dX6_byteAt_5 : decode cX6_byteAt 5 = .ok (.invokevirtual 133, 3) := by decide +kernel
theorem dX6_byteAt_8 : decode cX6_byteAt 8 = .ok (.ireturn, 1) := by decide +kernel
theorem dX6_count_0 : decode cX6_count 0 = .ok (.aload_n 0, 1) := by decide +kernel
theorem dX6_count_1 : decode cX6_count 1 = .ok (.iload_n 1, 1) := by decide +kernel
theorem dX6_count_2 : decode cX6_count 2 = .ok (.invokevirtual 106, 3) := by decide +kernel
theorem dX6_count_5 : decode cX6_count 5 = .ok (.astore_n 3, 1) := by decide +kernel
theorem dX6_count_6 : decode cX6_count 6 = .ok (.iload_n 2, 1) := by decide +kernel
theorem dX6_count_7 : decode cX6_count 7 = .ok (.tableswitch 55 0 3 #[29, 34, 39, 47], 29) := by decide +kernel
theorem dX6_count_36 : decode cX6_count 36 = .ok (.aload_n 3, 1) := by decide +kernel
theorem dX6_count_37 : decode cX6_count 37 = .ok (.invokevirtual 112, 3) := by decide +kernel
theorem dX6_count_40 : decode cX6_count 40 = .ok (.ireturn, 1) := by decide +kernel
theorem dX6_count_41 : decode cX6_count 41 = .ok (.aload_n 3, 1) := by decide +kernel
theorem dX6_count_42 : decode cX6_count 42 = .ok (.invokevirtual 136, 3) := by decide +kernel
theorem dX6_count_45 : decode cX6_count 45 = .ok (.ireturn, 1) := by decide +kernel
theorem dX6_count_46 : decode cX6_count 46 = .ok (.aload_n 0, 1) := by decide +kernel
theorem dX6_count_47 : decode cX6_count 47 = .ok (.getfield 21, 3) := by decide +kernel
theorem dX6_count_50 : decode cX6_count 50 = .ok (.invokevirtual 53, 3) := by decide +kernel
theorem dX6_count_53 : decode cX6_count 53 = .ok (.ireturn, 1) := by decide +kernel
theorem dX6_count_54 : decode cX6_count 54 = .ok (.aload_n 0, 1) := by decide +kernel
theorem dX6_count_55 : decode cX6_count 55 = .ok (.getfield 25, 3) := by decide +kernel
theorem dX6_count_58 : decode cX6_count 58 = .ok (.invokevirtual 53, 3) := by decide +kernel
theorem dX6_count_61 : decode cX6_count 61 = .ok (.ireturn, 1) := by decide +kernel
theorem dX6_count_62 : decode cX6_count 62 = .ok (.new 87, 3) := by decide +kernel
theorem dX6_count_65 : decode cX6_count 65 = .ok (.dup, 1) := by decide +kernel
theorem dX6_count_66 : decode cX6_count 66 = .ok (.ldc 139, 2) := by decide +kernel
theorem dX6_count_68 : decode cX6_count 68 = .ok (.invokespecial 91, 3) := by decide +kernel
theorem dX6_count_71 : decode cX6_count 71 = .ok (.athrow, 1) := by decide +kernel
theorem dX6_isSlot_0 : decode cX6_isSlot 0 = .ok (.iload_n 0, 1) := by decide +kernel
theorem dX6_isSlot_1 : decode cX6_isSlot 1 = .ok (.ifCond .lt 12, 3) := by decide +kernel
theorem dX6_isSlot_4 : decode cX6_isSlot 4 = .ok (.iload_n 0, 1) := by decide +kernel
theorem dX6_isSlot_5 : decode cX6_isSlot 5 = .ok (.iconst 4, 1) := by decide +kernel
theorem dX6_isSlot_6 : decode cX6_isSlot 6 = .ok (.if_icmp .ge 7, 3) := by decide +kernel
theorem dX6_isSlot_9 : decode cX6_isSlot 9 = .ok (.iconst 1, 1) := by decide +kernel
theorem dX6_isSlot_10 : decode cX6_isSlot 10 = .ok (.goto 4, 3) := by decide +kernel
theorem dX6_isSlot_13 : decode cX6_isSlot 13 = .ok (.iconst 0, 1) := by decide +kernel
theorem dX6_isSlot_14 : decode cX6_isSlot 14 = .ok (.ireturn, 1) := by decide +kernel
theorem dX6_shapeIn_0 : decode cX6_shapeIn 0 = .ok (.iload_n 1, 1) := by decide +kernel
theorem dX6_shapeIn_1 : decode cX6_shapeIn 1 = .ok (.invokestatic 79, 3) := by decide +kernel
theorem dX6_shapeIn_4 : decode cX6_shapeIn 4 = .ok (.ifCond .ne 13, 3) := by decide +kernel
theorem dX6_shapeIn_7 : decode cX6_shapeIn 7 = .ok (.new 87, 3) := by decide +kernel
theorem dX6_shapeIn_10 : decode cX6_shapeIn 10 = .ok (.dup, 1) := by decide +kernel
theorem dX6_shapeIn_11 : decode cX6_shapeIn 11 = .ok (.ldc 89, 2) := by decide +kernel
theorem dX6_shapeIn_13 : decode cX6_shapeIn 13 = .ok (.invokespecial 91, 3) := by decide +kernel
theorem dX6_shapeIn_16 : decode cX6_shapeIn 16 = .ok (.athrow, 1) := by decide +kernel
theorem dX6_shapeIn_17 : decode cX6_shapeIn 17 = .ok (.aload_n 0, 1) := by decide +kernel
theorem dX6_shapeIn_18 : decode cX6_shapeIn 18 = .ok (.getfield 11, 3) := by decide +kernel
theorem dX6_shapeIn_21 : decode cX6_shapeIn 21 = .ok (.iload_n 1, 1) := by decide +kernel
theorem dX6_shapeIn_22 : decode cX6_shapeIn 22 = .ok (.aaload, 1) := by decide +kernel
theorem dX6_shapeIn_23 : decode cX6_shapeIn 23 = .ok (.areturn, 1) := by decide +kernel
theorem dX6_between_0 : decode cX6_between 0 = .ok (.iload_n 0, 1) := by decide +kernel
theorem dX6_between_1 : decode cX6_between 1 = .ok (.iload_n 1, 1) := by decide +kernel
theorem dX6_between_2 : decode cX6_between 2 = .ok (.iload_n 2, 1) := by decide +kernel
theorem dX6_between_3 : decode cX6_between 3 = .ok (.invokestatic 141, 3) := by decide +kernel
theorem dX6_between_6 : decode cX6_between 6 = .ok (.invokestatic 146, 3) := by decide +kernel
theorem dX6_between_9 : decode cX6_between 9 = .ok (.ireturn, 1) := by decide +kernel
theorem dX7_init_0 : decode cX7_init 0 = .ok (.aload_n 0, 1) := by decide +kernel
theorem dX7_init_1 : decode cX7_init 1 = .ok (.invokespecial 1, 3) := by decide +kernel
theorem dX7_init_4 : decode cX7_init 4 = .ok (.aload_n 0, 1) := by decide +kernel
theorem dX7_init_5 : decode cX7_init 5 = .ok (.ldc 7, 2) := by decide +kernel
theorem dX7_init_7 : decode cX7_init 7 = .ok (.newarray .int, 2) := by decide +kernel
theorem dX7_init_9 : decode cX7_init 9 = .ok (.putfield 8, 3) := by decide +kernel
theorem dX7_init_12 : decode cX7_init 12 = .ok (.aload_n 0, 1) := by decide +kernel
theorem dX7_init_13 : decode cX7_init 13 = .ok (.sipush 16384, 3) := by decide +kernel
theorem dX7_init_16 : decode cX7_init 16 = .ok (.newarray .int, 2) := by decide +kernel
theorem dX7_init_18 : decode cX7_init 18 = .ok (.putfield 14, 3) := by decide +kernel
theorem dX7_init_21 : decode cX7_init 21 = .ok (.aload_n 0, 1) := by decide +kernel
theorem dX7_init_22 : decode cX7_init 22 = .ok (.iconst 4, 1) := by decide +kernel
theorem dX7_init_23 : decode cX7_init 23 = .ok (.newarray .int, 2) := by decide +kernel
theorem dX7_init_25 : decode cX7_init 25 = .ok (.putfield 17, 3) := by decide +kernel
theorem dX7_init_28 : decode cX7_init 28 = .ok (.aload_n 0, 1) := by decide +kernel
theorem dX7_init_29 : decode cX7_init 29 = .ok (.ldc 20, 2) := by decide +kernel
theorem dX7_init_31 : decode cX7_init 31 = .ok (.newarray .int, 2) := by decide +kernel
theorem dX7_init_33 : decode cX7_init 33 = .ok (.putfield 21, 3) := by decide +kernel
theorem dX7_init_36 : decode cX7_init 36 = .ok (.aload_n 0, 1) := by decide +kernel
theorem dX7_init_37 : decode cX7_init 37 = .ok (.iconst 4, 1) := by decide +kernel
theorem dX7_init_38 : decode cX7_init 38 = .ok (.newarray .int, 2) := by decide +kernel
theorem dX7_init_40 : decode cX7_init 40 = .ok (.putfield 24, 3) := by decide +kernel
theorem dX7_init_43 : decode cX7_init 43 = .ok (.aload_n 0, 1) := by decide +kernel
theorem dX7_init_44 : decode cX7_init 44 = .ok (.ldc 27, 2) := by decide +kernel
theorem dX7_init_46 : decode cX7_init 46 = .ok (.newarray .int, 2) := by decide +kernel
theorem dX7_init_48 : decode cX7_init 48 = .ok (.putfield 28, 3) := by decide +kernel
theorem dX7_init_51 : decode cX7_init 51 = .ok (.aload_n 0, 1) := by decide +kernel
theorem dX7_init_52 : decode cX7_init 52 = .ok (.bipush 104, 2) := by decide +kernel
theorem dX7_init_54 : decode cX7_init 54 = .ok (.newarray .int, 2) := by decide +kernel
theorem dX7_init_56 : decode cX7_init 56 = .ok (.putfield 31, 3) := by decide +kernel
theorem dX7_init_59 : decode cX7_init 59 = .ok (.aload_n 0, 1) := by decide +kernel
theorem dX7_init_60 : decode cX7_init 60 = .ok (.bipush 104, 2) := by decide +kernel
theorem dX7_init_62 : decode cX7_init 62 = .ok (.newarray .long, 2) := by decide +kernel
theorem dX7_init_64 : decode cX7_init 64 = .ok (.putfield 34, 3) := by decide +kernel
theorem dX7_init_67 : decode cX7_init 67 = .ok (.aload_n 0, 1) := by decide +kernel
theorem dX7_init_68 : decode cX7_init 68 = .ok (.iload_n 1, 1) := by decide +kernel
theorem dX7_init_69 : decode cX7_init 69 = .ok (.iconst 3, 1) := by decide +kernel
theorem dX7_init_70 : decode cX7_init 70 = .ok (.iand, 1) := by decide +kernel
theorem dX7_init_71 : decode cX7_init 71 = .ok (.putfield 38, 3) := by decide +kernel
theorem dX7_init_74 : decode cX7_init 74 = .ok (.aload_n 0, 1) := by decide +kernel
theorem dX7_init_75 : decode cX7_init 75 = .ok (.iload_n 2, 1) := by decide +kernel
theorem dX7_init_76 : decode cX7_init 76 = .ok (.iconst 1, 1) := by decide +kernel
theorem dX7_init_77 : decode cX7_init 77 = .ok (.if_icmp .ge 7, 3) := by decide +kernel
theorem dX7_init_80 : decode cX7_init 80 = .ok (.iconst 1, 1) := by decide +kernel
theorem dX7_init_81 : decode cX7_init 81 = .ok (.goto 17, 3) := by decide +kernel
theorem dX7_init_84 : decode cX7_init 84 = .ok (.iload_n 2, 1) := by decide +kernel
