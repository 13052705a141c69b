theorem dX7_say_20 : decode cX7_say 20 = .ok (.iaload, 1) := by decide +kernel
theorem dX7_say_21 : decode cX7_say 21 = .ok (.iadd, 1) := by decide +kernel
theorem dX7_say_22 : decode cX7_say 22 = .ok (.iload_n 1, 1) := by decide +kernel
theorem dX7_say_23 : decode cX7_say 23 = .ok (.iastore, 1) := by decide +kernel
theorem dX7_say_24 : decode cX7_say 24 = .ok (.aload_n 0, 1) := by decide +kernel
theorem dX7_say_25 : decode cX7_say 25 = .ok (.getfield 17, 3) := by decide +kernel
theorem dX7_say_28 : decode cX7_say 28 = .ok (.aload_n 0, 1) := by decide +kernel
theorem dX7_say_29 : decode cX7_say 29 = .ok (.getfield 107, 3) := by decide +kernel
theorem dX7_say_32 : decode cX7_say 32 = .ok (.dup2, 1) := by decide +kernel
theorem dX7_say_33 : decode cX7_say 33 = .ok (.iaload, 1) := by decide +kernel
theorem dX7_say_34 : decode cX7_say 34 = .ok (.iconst 1, 1) := by decide +kernel
theorem dX7_say_35 : decode cX7_say 35 = .ok (.iadd, 1) := by decide +kernel
theorem dX7_say_36 : decode cX7_say 36 = .ok (.iastore, 1) := by decide +kernel
theorem dX7_say_37 : decode cX7_say 37 = .ok (.return_, 1) := by decide +kernel
theorem dX7_put_0 : decode cX7_put 0 = .ok (.iconst 2, 1) := by decide +kernel
theorem dX7_put_1 : decode cX7_put 1 = .ok (.sipush 4096, 3) := by decide +kernel
theorem dX7_put_4 : decode cX7_put 4 = .ok (.aload_n 0, 1) := by decide +kernel
theorem dX7_put_5 : decode cX7_put 5 = .ok (.getfield 107, 3) := by decide +kernel
theorem dX7_put_8 : decode cX7_put 8 = .ok (.imul, 1) := by decide +kernel
theorem dX7_put_9 : decode cX7_put 9 = .ok (.aload_n 0, 1) := by decide +kernel
theorem dX7_put_10 : decode cX7_put 10 = .ok (.getfield 24, 3) := by decide +kernel
theorem dX7_put_13 : decode cX7_put 13 = .ok (.aload_n 0, 1) := by decide +kernel
theorem dX7_put_14 : decode cX7_put 14 = .ok (.getfield 107, 3) := by decide +kernel
theorem dX7_put_17 : decode cX7_put 17 = .ok (.iaload, 1) := by decide +kernel
theorem dX7_put_18 : decode cX7_put 18 = .ok (.iadd, 1) := by decide +kernel
theorem dX7_put_19 : decode cX7_put 19 = .ok (.imul, 1) := by decide +kernel
theorem dX7_put_20 : decode cX7_put 20 = .ok (.istore_n 3, 1) := by decide +kernel
theorem dX7_put_21 : decode cX7_put 21 = .ok (.aload_n 0, 1) := by decide +kernel
theorem dX7_put_22 : decode cX7_put 22 = .ok (.getfield 21, 3) := by decide +kernel
theorem dX7_put_25 : decode cX7_put 25 = .ok (.iload_n 3, 1) := by decide +kernel
theorem dX7_put_26 : decode cX7_put 26 = .ok (.iload_n 1, 1) := by decide +kernel
theorem dX7_put_27 : decode cX7_put 27 = .ok (.iastore, 1) := by decide +kernel
theorem dX7_put_28 : decode cX7_put 28 = .ok (.aload_n 0, 1) := by decide +kernel
theorem dX7_put_29 : decode cX7_put 29 = .ok (.getfield 21, 3) := by decide +kernel
theorem dX7_put_32 : decode cX7_put 32 = .ok (.iload_n 3, 1) := by decide +kernel
theorem dX7_put_33 : decode cX7_put 33 = .ok (.iconst 1, 1) := by decide +kernel
theorem dX7_put_34 : decode cX7_put 34 = .ok (.iadd, 1) := by decide +kernel
theorem dX7_put_35 : decode cX7_put 35 = .ok (.iload_n 2, 1) := by decide +kernel
theorem dX7_put_36 : decode cX7_put 36 = .ok (.iastore, 1) := by decide +kernel
theorem dX7_put_37 : decode cX7_put 37 = .ok (.aload_n 0, 1) := by decide +kernel
theorem dX7_put_38 : decode cX7_put 38 = .ok (.getfield 24, 3) := by decide +kernel
theorem dX7_put_41 : decode cX7_put 41 = .ok (.aload_n 0, 1) := by decide +kernel
theorem dX7_put_42 : decode cX7_put 42 = .ok (.getfield 107, 3) := by decide +kernel
theorem dX7_put_45 : decode cX7_put 45 = .ok (.dup2, 1) := by decide +kernel
theorem dX7_put_46 : decode cX7_put 46 = .ok (.iaload, 1) := by decide +kernel
theorem dX7_put_47 : decode cX7_put 47 = .ok (.iconst 1, 1) := by decide +kernel
theorem dX7_put_48 : decode cX7_put 48 = .ok (.iadd, 1) := by decide +kernel
theorem dX7_put_49 : decode cX7_put 49 = .ok (.iastore, 1) := by decide +kernel
theorem dX7_put_50 : decode cX7_put 50 = .ok (.return_, 1) := by decide +kernel
theorem dX7_coordinate_0 : decode cX7_coordinate 0 = .ok (.aload_n 0, 1) := by decide +kernel
theorem dX7_coordinate_1 : decode cX7_coordinate 1 = .ok (.iconst 0, 1) := by decide +kernel
theorem dX7_coordinate_2 : decode cX7_coordinate 2 = .ok (.iconst 1, 1) := by decide +kernel
theorem dX7_coordinate_3 : decode cX7_coordinate 3 = .ok (.invokevirtual 110, 3) := by decide +kernel
theorem dX7_coordinate_6 : decode cX7_coordinate 6 = .ok (.ifCond .ne 14, 3) := by decide +kernel
theorem dX7_coordinate_9 : decode cX7_coordinate 9 = .ok (.aload_n 0, 1) := by decide +kernel
theorem dX7_coordinate_10 : decode cX7_coordinate 10 = .ok (.bipush 7, 2) := by decide +kernel
theorem dX7_coordinate_12 : decode cX7_coordinate 12 = .ok (.aload_n 0, 1) := by decide +kernel
theorem dX7_coordinate_13 : decode cX7_coordinate 13 = .ok (.getfield 68, 3) := by decide +kernel
theorem dX7_coordinate_16 : decode cX7_coordinate 16 = .ok (.invokevirtual 71, 3) := by decide +kernel
theorem dX7_coordinate_19 : decode cX7_coordinate 19 = .ok (.ireturn, 1) := by decide +kernel
theorem dX7_coordinate_20 : decode cX7_coordinate 20 = .ok (.aload_n 0, 1) := by decide +kernel
theorem dX7_coordinate_21 : decode cX7_coordinate 21 = .ok (.bipush 8, 2) := by decide +kernel
theorem dX7_coordinate_23 : decode cX7_coordinate 23 = .ok (.invokevirtual 113, 3) := by decide +kernel
theorem dX7_coordinate_26 : decode cX7_coordinate 26 = .ok (.ifCond .eq 21, 3) := by decide +kernel
theorem dX7_coordinate_29 : decode cX7_coordinate 29 = .ok (.aload_n 0, 1) := by decide +kernel
theorem dX7_coordinate_30 : decode cX7_coordinate 30 = .ok (.aload_n 0, 1) := by decide +kernel
theorem dX7_coordinate_31 : decode cX7_coordinate 31 = .ok (.getfield 75, 3) := by decide +kernel
theorem dX7_coordinate_34 : decode cX7_coordinate 34 = .ok (.aload_n 0, 1) := by decide +kernel
theorem dX7_coordinate_35 : decode cX7_coordinate 35 = .ok (.getfield 68, 3) := by decide +kernel
theorem dX7_coordinate_38 : decode cX7_coordinate 38 = .ok (.bipush 8, 2) := by decide +kernel
theorem dX7_coordinate_40 : decode cX7_coordinate 40 = .ok (.isub, 1) := by decide +kernel
theorem dX7_coordinate_41 : decode cX7_coordinate 41 = .ok (.invokevirtual 117, 3) := by decide +kernel
theorem dX7_coordinate_44 : decode cX7_coordinate 44 = .ok (.ifCond .ne 5, 3) := by decide +kernel
theorem dX7_coordinate_47 : decode cX7_coordinate 47 = .ok (.iconst 0, 1) := by decide +kernel
theorem dX7_coordinate_48 : decode cX7_coordinate 48 = .ok (.ireturn, 1) := by decide +kernel
theorem dX7_coordinate_49 : decode cX7_coordinate 49 = .ok (.aload_n 0, 1) := by decide +kernel
theorem dX7_coordinate_50 : decode cX7_coordinate 50 = .ok (.getfield 104, 3) := by decide +kernel
theorem dX7_coordinate_53 : decode cX7_coordinate 53 = .ok (.istore_n 1, 1) := by decide +kernel
theorem dX7_coordinate_54 : decode cX7_coordinate 54 = .ok (.aload_n 0, 1) := by decide +kernel
theorem dX7_coordinate_55 : decode cX7_coordinate 55 = .ok (.bipush 8, 2) := by decide +kernel
theorem dX7_coordinate_57 : decode cX7_coordinate 57 = .ok (.invokevirtual 113, 3) := by decide +kernel
theorem dX7_coordinate_60 : decode cX7_coordinate 60 = .ok (.ifCond .eq 21, 3) := by decide +kernel
theorem dX7_coordinate_63 : decode cX7_coordinate 63 = .ok (.aload_n 0, 1) := by decide +kernel
theorem dX7_coordinate_64 : decode cX7_coordinate 64 = .ok (.aload_n 0, 1) := by decide +kernel
theorem dX7_coordinate_65 : decode cX7_coordinate 65 = .ok (.getfield 75, 3) := by decide +kernel
theorem dX7_coordinate_68 : decode cX7_coordinate 68 = .ok (.aload_n 0, 1) := by decide +kernel
theorem dX7_coordinate_69 : decode cX7_coordinate 69 = .ok (.getfield 68, 3) := by decide +kernel
theorem dX7_coordinate_72 : decode cX7_coordinate 72 = .ok (.bipush 8, 2) := by decide +kernel
theorem dX7_coordinate_74 : decode cX7_coordinate 74 = .ok (.isub, 1) := by decide +kernel
theorem dX7_coordinate_75 : decode cX7_coordinate 75 = .ok (.invokevirtual 117, 3) := by decide +kernel
theorem dX7_coordinate_78 : decode cX7_coordinate 78 = .ok (.ifCond .ne 5, 3) := by decide +kernel
theorem dX7_coordinate_81 : decode cX7_coordinate 81 = .ok (.iconst 0, 1) := by decide +kernel
theorem dX7_coordinate_82 : decode cX7_coordinate 82 = .ok (.ireturn, 1) := by decide +kernel
theorem dX7_coordinate_83 : decode cX7_coordinate 83 = .ok (.aload_n 0, 1) := by decide +kernel
theorem dX7_coordinate_84 : decode cX7_coordinate 84 = .ok (.iload_n 1, 1) := by decide +kernel
theorem dX7_coordinate_85 : decode cX7_coordinate 85 = .ok (.aload_n 0, 1) := by decide +kernel
theorem dX7_coordinate_86 : decode cX7_coordinate 86 = .ok (.getfield 104, 3) := by decide +kernel
theorem dX7_coordinate_89 : decode cX7_coordinate 89 = .ok (.invokevirtual 121, 3) := by decide +kernel
theorem dX7_coordinate_92 : decode cX7_coordinate 92 = .ok (.iconst 1, 1) := by decide +kernel
theorem dX7_coordinate_93 : decode cX7_coordinate 93 = .ok (.ireturn, 1) := by decide +kernel
theorem dX7_point_0 : decode cX7_point 0 = .ok (.aload_n 0, 1) := by decide +kernel
theorem dX7_point_1 : decode cX7_point 1 = .ok (.getfield 68, 3) := by decide +kernel
theorem dX7_point_4 : decode cX7_point 4 = .ok (.istore_n 1, 1) := by decide +kernel
theorem dX7_point_5 : decode cX7_point 5 = .ok (.aload_n 0, 1) := by decide +kernel
theorem dX7_point_6 : decode cX7_point 6 = .ok (.getfield 68, 3) := by decide +kernel
theorem dX7_point_9 : decode cX7_point 9 = .ok (.bipush 16, 2) := by decide +kernel
theorem dX7_point_11 : decode cX7_point 11 = .ok (.iadd, 1) := by decide +kernel
theorem dX7_point_12 : decode cX7_point 12 = .ok (.aload_n 0, 1) := by decide +kernel
theorem dX7_point_13 : decode cX7_point 13 = .ok (.getfield 55, 3) := by decide +kernel
theorem dX7_point_16 : decode cX7_point 16 = .ok (.if_icmp .gt 46, 3) := by decide +kernel
theorem dX7_point_19 : decode cX7_point 19 = .ok (.aload_n 0, 1) := by decide +kernel
theorem dX7_point_20 : decode cX7_point 20 = .ok (.bipush 8, 2) := by decide +kernel
theorem dX7_point_22 : decode cX7_point 22 = .ok (.invokevirtual 113, 3) := by decide +kernel
theorem dX7_point_25 : decode cX7_point 25 = .ok (.pop, 1) := by decide +kernel
theorem dX7_point_26 : decode cX7_point 26 = .ok (.aload_n 0, 1) := by decide +kernel
theorem dX7_point_27 : decode cX7_point 27 = .ok (.getfield 75, 3) := by decide +kernel
theorem dX7_point_30 : decode cX7_point 30 = .ok (.invokestatic 125, 3) := by decide +kernel
theorem dX7_point_33 : decode cX7_point 33 = .ok (.istore_n 2, 1) := by decide +kernel
theorem dX7_point_34 : decode cX7_point 34 = .ok (.aload_n 0, 1) := by decide +kernel
theorem dX7_point_35 : decode cX7_point 35 = .ok (.bipush 8, 2) := by decide +kernel
theorem dX7_point_37 : decode cX7_point 37 = .ok (.invokevirtual 113, 3) := by decide +kernel
theorem dX7_point_40 : decode cX7_point 40 = .ok (.pop, 1) := by decide +kernel
theorem dX7_point_41 : decode cX7_point 41 = .ok (.iload_n 2, 1) := by decide +kernel
theorem dX7_point_42 : decode cX7_point 42 = .ok (.ifCond .eq 15, 3) := by decide +kernel
theorem dX7_point_45 : decode cX7_point 45 = .ok (.aload_n 0, 1) := by decide +kernel
theorem dX7_point_46 : decode cX7_point 46 = .ok (.getfield 75, 3) := by decide +kernel
theorem dX7_point_49 : decode cX7_point 49 = .ok (.invokestatic 125, 3) := by decide +kernel
theorem dX7_point_52 : decode cX7_point 52 = .ok (.ifCond .eq 5, 3) := by decide +kernel
theorem dX7_point_55 : decode cX7_point 55 = .ok (.iconst 1, 1) := by decide +kernel
theorem dX7_point_56 : decode cX7_point 56 = .ok (.ireturn, 1) := by decide +kernel
theorem dX7_point_57 : decode cX7_point 57 = .ok (.aload_n 0, 1) := by decide +kernel
theorem dX7_point_58 : decode cX7_point 58 = .ok (.iload_n 1, 1) := by decide +kernel
theorem dX7_point_59 : decode cX7_point 59 = .ok (.putfield 68, 3) := by decide +kernel
theorem dX7_point_62 : decode cX7_point 62 = .ok (.aload_n 0, 1) := by decide +kernel
theorem dX7_point_63 : decode cX7_point 63 = .ok (.invokevirtual 129, 3) := by decide +kernel
theorem dX7_point_66 : decode cX7_point 66 = .ok (.ifCond .ne 5, 3) := by decide +kernel
theorem dX7_point_69 : decode cX7_point 69 = .ok (.iconst 0, 1) := by decide +kernel
theorem dX7_point_70 : decode cX7_point 70 = .ok (.ireturn, 1) := by decide +kernel
theorem dX7_point_71 : decode cX7_point 71 = .ok (.aload_n 0, 1) := by decide +kernel
theorem dX7_point_72 : decode cX7_point 72 = .ok (.getfield 14, 3) := by decide +kernel
theorem dX7_point_75 : decode cX7_point 75 = .ok (.sipush 4096, 3) := by decide +kernel
theorem dX7_point_78 : decode cX7_point 78 = .ok (.aload_n 0, 1) := by decide +kernel
theorem dX7_point_79 : decode cX7_point 79 = .ok (.getfield 107, 3) := by decide +kernel
theorem dX7_point_82 : decode cX7_point 82 = .ok (.imul, 1) := by decide +kernel
theorem dX7_point_83 : decode cX7_point 83 = .ok (.aload_n 0, 1) := by decide +kernel
theorem dX7_point_84 : decode cX7_point 84 = .ok (.getfield 17, 3) := by decide +kernel
theorem dX7_point_87 : decode cX7_point 87 = .ok (.aload_n 0, 1) := by decide +kernel
theorem dX7_point_88 : decode cX7_point 88 = .ok (.getfield 107, 3) := by decide +kernel
theorem dX7_point_91 : decode cX7_point 91 = .ok (.iaload, 1) := by decide +kernel
theorem dX7_point_92 : decode cX7_point 92 = .ok (.iadd, 1) := by decide +kernel
theorem dX7_point_93 : decode cX7_point 93 = .ok (.iconst 1, 1) := by decide +kernel
theorem dX7_point_94 : decode cX7_point 94 = .ok (.isub, 1) := by decide +kernel
theorem dX7_point_95 : decode cX7_point 95 = .ok (.iconst 1, 1) := by decide +kernel
theorem dX7_point_96 : decode cX7_point 96 = .ok (.iastore, 1) := by decide +kernel
theorem dX7_point_97 : decode cX7_point 97 = .ok (.iconst 1, 1) := by decide +kernel
theorem dX7_point_98 : decode cX7_point 98 = .ok (.ireturn, 1) := by decide +kernel
theorem dX7_coordinates_0 : decode cX7_coordinates 0 = .ok (.lconst 0, 1) := by decide +kernel
theorem dX7_coordinates_1 : decode cX7_coordinates 1 = .ok (.lstore 4, 2) := by decide +kernel
theorem dX7_coordinates_3 : decode cX7_coordinates 3 = .ok (.lload 4, 2) := by decide +kernel
theorem dX7_coordinates_5 : decode cX7_coordinates 5 = .ok (.lload_n 1, 1) := by decide +kernel
theorem dX7_coordinates_6 : decode cX7_coordinates 6 = .ok (.lcmp, 1) := by decide +kernel
theorem dX7_coordinates_7 : decode cX7_coordinates 7 = .ok (.ifCond .ge 21, 3) := by decide +kernel
theorem dX7_coordinates_10 : decode cX7_coordinates 10 = .ok (.aload_n 0, 1) := by decide +kernel
theorem dX7_coordinates_11 : decode cX7_coordinates 11 = .ok (.invokevirtual 129, 3) := by decide +kernel
theorem dX7_coordinates_14 : decode cX7_coordinates 14 = .ok (.ifCond .ne 5, 3) := by decide +kernel
theorem dX7_coordinates_17 : decode cX7_coordinates 17 = .ok (.iconst 0, 1) := by decide +kernel
theorem dX7_coordinates_18 : decode cX7_coordinates 18 = .ok (.ireturn, 1) := by decide +kernel
theorem dX7_coordinates_19 : decode cX7_coordinates 19 = .ok (.lload 4, 2) := by decide +kernel
theorem dX7_coordinates_21 : decode cX7_coordinates 21 = .ok (.lconst 1, 1) := by decide +kernel
theorem dX7_coordinates_22 : decode cX7_coordinates 22 = .ok (.ladd, 1) := by decide +kernel
theorem dX7_coordinates_23 : decode cX7_coordinates 23 = .ok (.lstore 4, 2) := by decide +kernel
theorem dX7_coordinates_25 : decode cX7_coordinates 25 = .ok (.goto (-22), 3) := by decide +kernel
theorem dX7_coordinates_28 : decode cX7_coordinates 28 = .ok (.aload_n 0, 1) := by decide +kernel
theorem dX7_coordinates_29 : decode cX7_coordinates 29 = .ok (.getfield 14, 3) := by decide +kernel
theorem dX7_coordinates_32 : decode cX7_coordinates 32 = .ok (.sipush 4096, 3) := by decide +kernel
theorem dX7_coordinates_35 : decode cX7_coordinates 35 = .ok (.aload_n 0, 1) := by decide +kernel
theorem dX7_coordinates_36 : decode cX7_coordinates 36 = .ok (.getfield 107, 3) := by decide +kernel
theorem dX7_coordinates_39 : decode cX7_coordinates 39 = .ok (.imul, 1) := by decide +kernel
theorem dX7_coordinates_40 : decode cX7_coordinates 40 = .ok (.iload_n 3, 1) := by decide +kernel
theorem dX7_coordinates_41 : decode cX7_coordinates 41 = .ok (.iadd, 1) := by decide +kernel
theorem dX7_coordinates_42 : decode cX7_coordinates 42 = .ok (.lload_n 1, 1) := by decide +kernel
theorem dX7_coordinates_43 : decode cX7_coordinates 43 = .ok (.l2i, 1) := by decide +kernel
theorem dX7_coordinates_44 : decode cX7_coordinates 44 = .ok (.iastore, 1) := by decide +kernel
theorem dX7_coordinates_45 : decode cX7_coordinates 45 = .ok (.iconst 1, 1) := by decide +kernel
theorem dX7_coordinates_46 : decode cX7_coordinates 46 = .ok (.ireturn, 1) := by decide +kernel
theorem dX7_rings_0 : decode cX7_rings 0 = .ok (.lconst 0, 1) := by decide +kernel
theorem dX7_rings_1 : decode cX7_rings 1 = .ok (.lstore 4, 2) := by decide +kernel
theorem dX7_rings_3 : decode cX7_rings 3 = .ok (.lload 4, 2) := by decide +kernel
theorem dX7_rings_5 : decode cX7_rings 5 = .ok (.lload_n 1, 1) := by decide +kernel
theorem dX7_rings_6 : decode cX7_rings 6 = .ok (.lcmp, 1) := by decide +kernel
theorem dX7_rings_7 : decode cX7_rings 7 = .ok (.ifCond .ge 92, 3) := by decide +kernel
theorem dX7_rings_10 : decode cX7_rings 10 = .ok (.aload_n 0, 1) := by decide +kernel
theorem dX7_rings_11 : decode cX7_rings 11 = .ok (.iconst 1, 1) := by decide +kernel
theorem dX7_rings_12 : decode cX7_rings 12 = .ok (.iconst 0, 1) := by decide +kernel
theorem dX7_rings_13 : decode cX7_rings 13 = .ok (.invokevirtual 110, 3) := by decide +kernel
theorem dX7_rings_16 : decode cX7_rings 16 = .ok (.ifCond .ne 14, 3) := by decide +kernel
theorem dX7_rings_19 : decode cX7_rings 19 = .ok (.aload_n 0, 1) := by decide +kernel
theorem dX7_rings_20 : decode cX7_rings 20 = .ok (.bipush 7, 2) := by decide +kernel
theorem dX7_rings_22 : decode cX7_rings 22 = .ok (.aload_n 0, 1) := by decide +kernel
theorem dX7_rings_23 : decode cX7_rings 23 = .ok (.getfield 68, 3) := by decide +kernel
theorem dX7_rings_26 : decode cX7_rings 26 = .ok (.invokevirtual 71, 3) := by decide +kernel
theorem dX7_rings_29 : decode cX7_rings 29 = .ok (.ireturn, 1) := by decide +kernel
theorem dX7_rings_30 : decode cX7_rings 30 = .ok (.aload_n 0, 1) := by decide +kernel
theorem dX7_rings_31 : decode cX7_rings 31 = .ok (.iconst 4, 1) := by decide +kernel
theorem dX7_rings_32 : decode cX7_rings 32 = .ok (.invokevirtual 113, 3) := by decide +kernel
theorem dX7_rings_35 : decode cX7_rings 35 = .ok (.ifCond .ne 5, 3) := by decide +kernel
theorem dX7_rings_38 : decode cX7_rings 38 = .ok (.iconst 0, 1) := by decide +kernel
theorem dX7_rings_39 : decode cX7_rings 39 = .ok (.ireturn, 1) := by decide +kernel
theorem dX7_rings_40 : decode cX7_rings 40 = .ok (.aload_n 0, 1) := by decide +kernel
theorem dX7_rings_41 : decode cX7_rings 41 = .ok (.getfield 75, 3) := by decide +kernel
theorem dX7_rings_44 : decode cX7_rings 44 = .ok (.lconst 0, 1) := by decide +kernel
theorem dX7_rings_45 : decode cX7_rings 45 = .ok (.lcmp, 1) := by decide +kernel
theorem dX7_rings_46 : decode cX7_rings 46 = .ok (.ifCond .ne 15, 3) := by decide +kernel
theorem dX7_rings_49 : decode cX7_rings 49 = .ok (.aload_n 0, 1) := by decide +kernel
theorem dX7_rings_50 : decode cX7_rings 50 = .ok (.iconst 4, 1) := by decide +kernel
theorem dX7_rings_51 : decode cX7_rings 51 = .ok (.aload_n 0, 1) := by decide +kernel
theorem dX7_rings_52 : decode cX7_rings 52 = .ok (.getfield 68, 3) := by decide +kernel
theorem dX7_rings_55 : decode cX7_rings 55 = .ok (.iconst 4, 1) := by decide +kernel
theorem dX7_rings_56 : decode cX7_rings 56 = .ok (.isub, 1) := by decide +kernel
theorem dX7_rings_57 : decode cX7_rings 57 = .ok (.invokevirtual 71, 3) := by decide +kernel
theorem dX7_rings_60 : decode cX7_rings 60 = .ok (.ireturn, 1) := by decide +kernel
theorem dX7_rings_61 : decode cX7_rings 61 = .ok (.aload_n 0, 1) := by decide +kernel
theorem dX7_rings_62 : decode cX7_rings 62 = .ok (.iconst 0, 1) := by decide +kernel
theorem dX7_rings_63 : decode cX7_rings 63 = .ok (.invokevirtual 133, 3) := by decide +kernel
theorem dX7_rings_66 : decode cX7_rings 66 = .ok (.aload_n 0, 1) := by decide +kernel
theorem dX7_rings_67 : decode cX7_rings 67 = .ok (.aload_n 0, 1) := by decide +kernel
theorem dX7_rings_68 : decode cX7_rings 68 = .ok (.getfield 75, 3) := by decide +kernel
theorem dX7_rings_71 : decode cX7_rings 71 = .ok (.aload_n 0, 1) := by decide +kernel
theorem dX7_rings_72 : decode cX7_rings 72 = .ok (.getfield 17, 3) := by decide +kernel
theorem dX7_rings_75 : decode cX7_rings 75 = .ok (.aload_n 0, 1) := by decide +kernel
theorem dX7_rings_76 : decode cX7_rings 76 = .ok (.getfield 107, 3) := by decide +kernel
theorem dX7_rings_79 : decode cX7_rings 79 = .ok (.iaload, 1) := by decide +kernel
theorem dX7_rings_80 : decode cX7_rings 80 = .ok (.iconst 1, 1) := by decide +kernel
theorem dX7_rings_81 : decode cX7_rings 81 = .ok (.isub, 1) := by decide +kernel
theorem dX7_rings_82 : decode cX7_rings 82 = .ok (.invokevirtual 137, 3) := by decide +kernel
theorem dX7_rings_85 : decode cX7_rings 85 = .ok (.ifCond .ne 5, 3) := by decide +kernel
theorem dX7_rings_88 : decode cX7_rings 88 = .ok (.iconst 0, 1) := by decide +kernel
theorem dX7_rings_89 : decode cX7_rings 89 = .ok (.ireturn, 1) := by decide +kernel
theorem dX7_rings_90 : decode cX7_rings 90 = .ok (.lload 4, 2) := by decide +kernel
theorem dX7_rings_92 : decode cX7_rings 92 = .ok (.lconst 1, 1) := by decide +kernel
theorem dX7_rings_93 : decode cX7_rings 93 = .ok (.ladd, 1) := by decide +kernel
theorem dX7_rings_94 : decode cX7_rings 94 = .ok (.lstore 4, 2) := by decide +kernel
theorem dX7_rings_96 : decode cX7_rings 96 = .ok (.goto (-93), 3) := by decide +kernel
theorem dX7_rings_99 : decode cX7_rings 99 = .ok (.aload_n 0, 1) := by decide +kernel
theorem dX7_rings_100 : decode cX7_rings 100 = .ok (.getfield 14, 3) := by decide +kernel
theorem dX7_rings_103 : decode cX7_rings 103 = .ok (.sipush 4096, 3) := by decide +kernel
theorem dX7_rings_106 : decode cX7_rings 106 = .ok (.aload_n 0, 1) := by decide +kernel
theorem dX7_rings_107 : decode cX7_rings 107 = .ok (.getfield 107, 3) := by decide +kernel
theorem dX7_rings_110 : decode cX7_rings 110 = .ok (.imul, 1) := by decide +kernel
theorem dX7_rings_111 : decode cX7_rings 111 = .ok (.iload_n 3, 1) := by decide +kernel
theorem dX7_rings_112 : decode cX7_rings 112 = .ok (.iadd, 1) := by decide +kernel
theorem dX7_rings_113 : decode cX7_rings 113 = .ok (.lload_n 1, 1) := by decide +kernel
theorem dX7_rings_114 : decode cX7_rings 114 = .ok (.l2i, 1) := by decide +kernel
theorem dX7_rings_115 : decode cX7_rings 115 = .ok (.iastore, 1) := by decide +kernel
theorem dX7_rings_116 : decode cX7_rings 116 = .ok (.iconst 1, 1) := by decide +kernel
theorem dX7_rings_117 : decode cX7_rings 117 = .ok (.ireturn, 1) := by decide +kernel
theorem dX7_kindOf_0 : decode cX7_kindOf 0 = .ok (.iload_n 0, 1) := by decide +kernel
theorem dX7_kindOf_1 : decode cX7_kindOf 1 = .ok (.sipush 1000, 3) := by decide +kernel
theorem dX7_kindOf_4 : decode cX7_kindOf 4 = .ok (.irem, 1) := by decide +kernel
theorem dX7_kindOf_5 : decode cX7_kindOf 5 = .ok (.istore_n 1, 1) := by decide +kernel
theorem dX7_kindOf_6 : decode cX7_kindOf 6 = .ok (.iload_n 0, 1) := by decide +kernel
theorem dX7_kindOf_7 : decode cX7_kindOf 7 = .ok (.sipush 1000, 3) := by decide +kernel
theorem dX7_kindOf_10 : decode cX7_kindOf 10 = .ok (.idiv, 1) := by decide +kernel
theorem dX7_kindOf_11 : decode cX7_kindOf 11 = .ok (.iconst 3, 1) := by decide +kernel
theorem dX7_kindOf_12 : decode cX7_kindOf 12 = .ok (.if_icmp .gt 17, 3) := by decide +kernel
theorem dX7_kindOf_15 : decode cX7_kindOf 15 = .ok (.iload_n 1, 1) := by decide +kernel
theorem dX7_kindOf_16 : decode cX7_kindOf 16 = .ok (.iconst 1, 1) := by decide +kernel
theorem dX7_kindOf_17 : decode cX7_kindOf 17 = .ok (.bipush 7, 2) := by decide +kernel
theorem dX7_kindOf_19 : decode cX7_kindOf 19 = .ok (.invokestatic 51, 3) := by decide +kernel
theorem dX7_kindOf_22 : decode cX7_kindOf 22 = .ok (.ifCond .eq 7, 3) := by decide +kernel
theorem dX7_kindOf_25 : decode cX7_kindOf 25 = .ok (.iload_n 1, 1) := by decide +kernel
theorem dX7_kindOf_26 : decode cX7_kindOf 26 = .ok (.goto 4, 3) := by decide +kernel
theorem dX7_kindOf_29 : decode cX7_kindOf 29 = .ok (.iconst (-1), 1) := by decide +kernel
theorem dX7_kindOf_30 : decode cX7_kindOf 30 = .ok (.ireturn, 1) := by decide +kernel
theorem dX7_collections_0 : decode cX7_collections 0 = .ok (.iconst 0, 1) := by decide +kernel
theorem dX7_collections_1 : decode cX7_collections 1 = .ok (.istore_n 2, 1) := by decide +kernel
theorem dX7_collections_2 : decode cX7_collections 2 = .ok (.iconst 0, 1) := by decide +kernel
theorem dX7_collections_3 : decode cX7_collections 3 = .ok (.istore_n 3, 1) := by decide +kernel
theorem dX7_collections_4 : decode cX7_collections 4 = .ok (.iload_n 3, 1) := by decide +kernel
theorem dX7_collections_5 : decode cX7_collections 5 = .ok (.iload_n 1, 1) := by decide +kernel
theorem dX7_collections_6 : decode cX7_collections 6 = .ok (.if_icmp .ge 28, 3) := by decide +kernel
theorem dX7_collections_9 : decode cX7_collections 9 = .ok (.iload_n 2, 1) := by decide +kernel
theorem dX7_collections_10 : decode cX7_collections 10 = .ok (.aload_n 0, 1) := by decide +kernel
theorem dX7_collections_11 : decode cX7_collections 11 = .ok (.getfield 31, 3) := by decide +kernel
theorem dX7_collections_14 : decode cX7_collections 14 = .ok (.iload_n 3, 1) := by decide +kernel
theorem dX7_collections_15 : decode cX7_collections 15 = .ok (.iaload, 1) := by decide +kernel
theorem dX7_collections_16 : decode cX7_collections 16 = .ok (.bipush 7, 2) := by decide +kernel
theorem dX7_collections_18 : decode cX7_collections 18 = .ok (.if_icmp .ne 7, 3) := by decide +kernel
theorem dX7_collections_21 : decode cX7_collections 21 = .ok (.iconst 1, 1) := by decide +kernel
theorem dX7_collections_22 : decode cX7_collections 22 = .ok (.goto 4, 3) := by decide +kernel
theorem dX7_collections_25 : decode cX7_collections 25 = .ok (.iconst 0, 1) := by decide +kernel
theorem dX7_collections_26 : decode cX7_collections 26 = .ok (.iadd, 1) := by decide +kernel
theorem dX7_collections_27 : decode cX7_collections 27 = .ok (.istore_n 2, 1) := by decide +kernel
theorem dX7_collections_28 : decode cX7_collections 28 = .ok (.iinc 3 1, 3) := by decide +kernel
theorem dX7_collections_31 : decode cX7_collections 31 = .ok (.goto (-27), 3) := by decide +kernel
theorem dX7_collections_34 : decode cX7_collections 34 = .ok (.iload_n 2, 1) := by decide +kernel
theorem dX7_collections_35 : decode cX7_collections 35 = .ok (.ireturn, 1) := by decide +kernel
theorem dX7_shape_0 : decode cX7_shape 0 = .ok (.aload_n 0, 1) := by decide +kernel
theorem dX7_shape_1 : decode cX7_shape 1 = .ok (.getfield 68, 3) := by decide +kernel
theorem dX7_shape_4 : decode cX7_shape 4 = .ok (.aload_n 0, 1) := by decide +kernel
theorem dX7_shape_5 : decode cX7_shape 5 = .ok (.getfield 55, 3) := by decide +kernel
theorem dX7_shape_8 : decode cX7_shape 8 = .ok (.if_icmp .lt 21, 3) := by decide +kernel
theorem dX7_shape_11 : decode cX7_shape 11 = .ok (.aload_n 0, 1) := by decide +kernel
theorem dX7_shape_12 : decode cX7_shape 12 = .ok (.iconst 3, 1) := by decide +kernel
theorem dX7_shape_13 : decode cX7_shape 13 = .ok (.aload_n 0, 1) := by decide +kernel
theorem dX7_shape_14 : decode cX7_shape 14 = .ok (.getfield 68, 3) := by decide +kernel
theorem dX7_shape_17 : decode cX7_shape 17 = .ok (.invokevirtual 71, 3) := by decide +kernel
theorem dX7_shape_20 : decode cX7_shape 20 = .ok (.ifCond .eq 7, 3) := by decide +kernel
theorem dX7_shape_23 : decode cX7_shape 23 = .ok (.iconst 0, 1) := by decide +kernel
theorem dX7_shape_24 : decode cX7_shape 24 = .ok (.goto 4, 3) := by decide +kernel
theorem dX7_shape_27 : decode cX7_shape 27 = .ok (.iconst (-1), 1) := by decide +kernel
theorem dX7_shape_28 : decode cX7_shape 28 = .ok (.ireturn, 1) := by decide +kernel
theorem dX7_shape_29 : decode cX7_shape 29 = .ok (.aload_n 0, 1) := by decide +kernel
theorem dX7_shape_30 : decode cX7_shape 30 = .ok (.getfield 8, 3) := by decide +kernel
theorem dX7_shape_33 : decode cX7_shape 33 = .ok (.aload_n 0, 1) := by decide +kernel
theorem dX7_shape_34 : decode cX7_shape 34 = .ok (.getfield 68, 3) := by decide +kernel
theorem dX7_shape_37 : decode cX7_shape 37 = .ok (.iaload, 1) := by decide +kernel
theorem dX7_shape_38 : decode cX7_shape 38 = .ok (.iconst 1, 1) := by decide +kernel
theorem dX7_shape_39 : decode cX7_shape 39 = .ok (.if_icmp .le 21, 3) := by decide +kernel
theorem dX7_shape_42 : decode cX7_shape 42 = .ok (.aload_n 0, 1) := by decide +kernel
theorem dX7_shape_43 : decode cX7_shape 43 = .ok (.iconst 1, 1) := by decide +kernel
theorem dX7_shape_44 : decode cX7_shape 44 = .ok (.aload_n 0, 1) := by decide +kernel
theorem dX7_shape_45 : decode cX7_shape 45 = .ok (.getfield 68, 3) := by decide +kernel
theorem dX7_shape_48 : decode cX7_shape 48 = .ok (.invokevirtual 71, 3) := by decide +kernel
theorem dX7_shape_51 : decode cX7_shape 51 = .ok (.ifCond .eq 7, 3) := by decide +kernel
theorem dX7_shape_54 : decode cX7_shape 54 = .ok (.iconst 0, 1) := by decide +kernel
theorem dX7_shape_55 : decode cX7_shape 55 = .ok (.goto 4, 3) := by decide +kernel
theorem dX7_shape_58 : decode cX7_shape 58 = .ok (.iconst (-1), 1) := by decide +kernel
theorem dX7_shape_59 : decode cX7_shape 59 = .ok (.ireturn, 1) := by decide +kernel
theorem dX7_shape_60 : decode cX7_shape 60 = .ok (.aload_n 0, 1) := by decide +kernel
theorem dX7_shape_61 : decode cX7_shape 61 = .ok (.aload_n 0, 1) := by decide +kernel
theorem dX7_shape_62 : decode cX7_shape 62 = .ok (.getfield 8, 3) := by decide +kernel
theorem dX7_shape_65 : decode cX7_shape 65 = .ok (.aload_n 0, 1) := by decide +kernel
theorem dX7_shape_66 : decode cX7_shape 66 = .ok (.getfield 68, 3) := by decide +kernel
theorem dX7_shape_69 : decode cX7_shape 69 = .ok (.iaload, 1) := by decide +kernel
theorem dX7_shape_70 : decode cX7_shape 70 = .ok (.iconst 1, 1) := by decide +kernel
theorem dX7_shape_71 : decode cX7_shape 71 = .ok (.if_icmp .ne 7, 3) := by decide +kernel
theorem dX7_shape_74 : decode cX7_shape 74 = .ok (.iconst 1, 1) := by decide +kernel
theorem dX7_shape_75 : decode cX7_shape 75 = .ok (.goto 4, 3) := by decide +kernel
theorem dX7_shape_78 : decode cX7_shape 78 = .ok (.iconst 0, 1) := by decide +kernel
theorem dX7_shape_79 : decode cX7_shape 79 = .ok (.putfield 79, 3) := by decide +kernel
theorem dX7_shape_82 : decode cX7_shape 82 = .ok (.aload_n 0, 1) := by decide +kernel
theorem dX7_shape_83 : decode cX7_shape 83 = .ok (.dup, 1) := by decide +kernel
theorem dX7_shape_84 : decode cX7_shape 84 = .ok (.getfield 68, 3) := by decide +kernel
theorem dX7_shape_87 : decode cX7_shape 87 = .ok (.iconst 1, 1) := by decide +kernel
theorem dX7_shape_88 : decode cX7_shape 88 = .ok (.iadd, 1) := by decide +kernel
theorem dX7_shape_89 : decode cX7_shape 89 = .ok (.putfield 68, 3) := by decide +kernel
theorem dX7_shape_92 : decode cX7_shape 92 = .ok (.aload_n 0, 1) := by decide +kernel
theorem dX7_shape_93 : decode cX7_shape 93 = .ok (.getfield 68, 3) := by decide +kernel
theorem dX7_shape_96 : decode cX7_shape 96 = .ok (.istore_n 2, 1) := by decide +kernel
theorem dX7_shape_97 : decode cX7_shape 97 = .ok (.aload_n 0, 1) := by decide +kernel
theorem dX7_shape_98 : decode cX7_shape 98 = .ok (.iconst 4, 1) := by decide +kernel
theorem dX7_shape_99 : decode cX7_shape 99 = .ok (.invokevirtual 113, 3) := by decide +kernel
theorem dX7_shape_102 : decode cX7_shape 102 = .ok (.ifCond .ne 5, 3) := by decide +kernel
theorem dX7_shape_105 : decode cX7_shape 105 = .ok (.iconst (-1), 1) := by decide +kernel
theorem dX7_shape_106 : decode cX7_shape 106 = .ok (.ireturn, 1) := by decide +kernel
theorem dX7_shape_107 : decode cX7_shape 107 = .ok (.aload_n 0, 1) := by decide +kernel
theorem dX7_shape_108 : decode cX7_shape 108 = .ok (.getfield 75, 3) := by decide +kernel
theorem dX7_shape_111 : decode cX7_shape 111 = .ok (.ldc2_w 140, 3) := by decide +kernel
theorem dX7_shape_114 : decode cX7_shape 114 = .ok (.land, 1) := by decide +kernel
theorem dX7_shape_115 : decode cX7_shape 115 = .ok (.l2i, 1) := by decide +kernel
theorem dX7_shape_116 : decode cX7_shape 116 = .ok (.istore_n 3, 1) := by decide +kernel
theorem dX7_shape_117 : decode cX7_shape 117 = .ok (.iload_n 3, 1) := by decide +kernel
theorem dX7_shape_118 : decode cX7_shape 118 = .ok (.invokestatic 142, 3) := by decide +kernel
theorem dX7_shape_121 : decode cX7_shape 121 = .ok (.istore 4, 2) := by decide +kernel
theorem dX7_shape_123 : decode cX7_shape 123 = .ok (.iload_n 1, 1) := by decide +kernel
theorem dX7_shape_124 : decode cX7_shape 124 = .ok (.ifCond .ne 8, 3) := by decide +kernel
theorem dX7_shape_127 : decode cX7_shape 127 = .ok (.bipush 7, 2) := by decide +kernel
theorem dX7_shape_129 : decode cX7_shape 129 = .ok (.goto 11, 3) := by decide +kernel
theorem dX7_shape_132 : decode cX7_shape 132 = .ok (.aload_n 0, 1) := by decide +kernel
theorem dX7_shape_133 : decode cX7_shape 133 = .ok (.getfield 31, 3) := by decide +kernel
theorem dX7_shape_136 : decode cX7_shape 136 = .ok (.iload_n 1, 1) := by decide +kernel
theorem dX7_shape_137 : decode cX7_shape 137 = .ok (.iconst 1, 1) := by decide +kernel
theorem dX7_shape_138 : decode cX7_shape 138 = .ok (.isub, 1) := by decide +kernel
theorem dX7_shape_139 : decode cX7_shape 139 = .ok (.iaload, 1) := by decide +kernel
theorem dX7_shape_140 : decode cX7_shape 140 = .ok (.istore 5, 2) := by decide +kernel
theorem dX7_shape_142 : decode cX7_shape 142 = .ok (.aload_n 0, 1) := by decide +kernel
theorem dX7_shape_143 : decode cX7_shape 143 = .ok (.getfield 75, 3) := by decide +kernel
theorem dX7_shape_146 : decode cX7_shape 146 = .ok (.bipush 29, 2) := by decide +kernel
theorem dX7_shape_148 : decode cX7_shape 148 = .ok (.lshr, 1) := by decide +kernel
theorem dX7_shape_149 : decode cX7_shape 149 = .ok (.lconst 1, 1) := by decide +kernel
theorem dX7_shape_150 : decode cX7_shape 150 = .ok (.land, 1) := by decide +kernel
theorem dX7_shape_151 : decode cX7_shape 151 = .ok (.lconst 1, 1) := by decide +kernel
theorem dX7_shape_152 : decode cX7_shape 152 = .ok (.lcmp, 1) := by decide +kernel
theorem dX7_shape_153 : decode cX7_shape 153 = .ok (.ifCond .ne 7, 3) := by decide +kernel
theorem dX7_shape_156 : decode cX7_shape 156 = .ok (.iconst 1, 1) := by decide +kernel
theorem dX7_shape_157 : decode cX7_shape 157 = .ok (.goto 4, 3) := by decide +kernel
theorem dX7_shape_160 : decode cX7_shape 160 = .ok (.iconst 0, 1) := by decide +kernel
theorem dX7_shape_161 : decode cX7_shape 161 = .ok (.istore 6, 2) := by decide +kernel
theorem dX7_shape_163 : decode cX7_shape 163 = .ok (.aload_n 0, 1) := by decide +kernel
theorem dX7_shape_164 : decode cX7_shape 164 = .ok (.getfield 75, 3) := by decide +kernel
theorem dX7_shape_167 : decode cX7_shape 167 = .ok (.bipush 30, 2) := by decide +kernel
theorem dX7_shape_169 : decode cX7_shape 169 = .ok (.lshr, 1) := by decide +kernel
theorem dX7_shape_170 : decode cX7_shape 170 = .ok (.lconst 0, 1) := by decide +kernel
theorem dX7_shape_171 : decode cX7_shape 171 = .ok (.lcmp, 1) := by decide +kernel
theorem dX7_shape_172 : decode cX7_shape 172 = .ok (.ifCond .gt 10, 3) := by decide +kernel
theorem dX7_shape_175 : decode cX7_shape 175 = .ok (.iload_n 3, 1) := by decide +kernel
theorem dX7_shape_176 : decode cX7_shape 176 = .ok (.sipush 1000, 3) := by decide +kernel
theorem dX7_shape_179 : decode cX7_shape 179 = .ok (.if_icmp .lt 7, 3) := by decide +kernel
theorem dX7_shape_182 : decode cX7_shape 182 = .ok (.iconst 1, 1) := by decide +kernel
theorem dX7_shape_183 : decode cX7_shape 183 = .ok (.goto 4, 3) := by decide +kernel
theorem dX7_shape_186 : decode cX7_shape 186 = .ok (.iconst 0, 1) := by decide +kernel
theorem dX7_shape_187 : decode cX7_shape 187 = .ok (.istore 7, 2) := by decide +kernel
theorem dX7_shape_189 : decode cX7_shape 189 = .ok (.iload 4, 2) := by decide +kernel
theorem dX7_shape_191 : decode cX7_shape 191 = .ok (.ifCond .lt 19, 3) := by decide +kernel
theorem dX7_shape_194 : decode cX7_shape 194 = .ok (.iload 5, 2) := by decide +kernel
theorem dX7_shape_196 : decode cX7_shape 196 = .ok (.bipush 7, 2) := by decide +kernel
theorem dX7_shape_198 : decode cX7_shape 198 = .ok (.if_icmp .ge 27, 3) := by decide +kernel
theorem dX7_shape_201 : decode cX7_shape 201 = .ok (.iload 4, 2) := by decide +kernel
theorem dX7_shape_203 : decode cX7_shape 203 = .ok (.iload 5, 2) := by decide +kernel
theorem dX7_shape_205 : decode cX7_shape 205 = .ok (.iconst 3, 1) := by decide +kernel
theorem dX7_shape_206 : decode cX7_shape 206 = .ok (.isub, 1) := by decide +kernel
theorem dX7_shape_207 : decode cX7_shape 207 = .ok (.if_icmp .eq 18, 3) := by decide +kernel
theorem dX7_shape_210 : decode cX7_shape 210 = .ok (.aload_n 0, 1) := by decide +kernel
theorem dX7_shape_211 : decode cX7_shape 211 = .ok (.iconst 2, 1) := by decide +kernel
theorem dX7_shape_212 : decode cX7_shape 212 = .ok (.iload_n 2, 1) := by decide +kernel
theorem dX7_shape_213 : decode cX7_shape 213 = .ok (.invokevirtual 71, 3) := by decide +kernel
theorem dX7_shape_216 : decode cX7_shape 216 = .ok (.ifCond .eq 7, 3) := by decide +kernel
theorem dX7_shape_219 : decode cX7_shape 219 = .ok (.iconst 0, 1) := by decide +kernel
theorem dX7_shape_220 : decode cX7_shape 220 = .ok (.goto 4, 3) := by decide +kernel
