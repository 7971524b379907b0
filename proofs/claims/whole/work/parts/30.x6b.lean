theorem dX6_findFar_40 : decode cX6_findFar 40 = .ok (.iconst 0, 1) := by decide +kernel
theorem dX6_findFar_41 : decode cX6_findFar 41 = .ok (.istore 4, 2) := by decide +kernel
theorem dX6_findFar_43 : decode cX6_findFar 43 = .ok (.iload 4, 2) := by decide +kernel
theorem dX6_findFar_45 : decode cX6_findFar 45 = .ok (.aload_n 0, 1) := by decide +kernel
theorem dX6_findFar_46 : decode cX6_findFar 46 = .ok (.getfield 16, 3) := by decide +kernel
theorem dX6_findFar_49 : decode cX6_findFar 49 = .ok (.iload_n 1, 1) := by decide +kernel
theorem dX6_findFar_50 : decode cX6_findFar 50 = .ok (.iaload, 1) := by decide +kernel
theorem dX6_findFar_51 : decode cX6_findFar 51 = .ok (.if_icmp .ge 73, 3) := by decide +kernel
theorem dX6_findFar_54 : decode cX6_findFar 54 = .ok (.iconst 0, 1) := by decide +kernel
theorem dX6_findFar_55 : decode cX6_findFar 55 = .ok (.istore 5, 2) := by decide +kernel
theorem dX6_findFar_57 : decode cX6_findFar 57 = .ok (.iload 5, 2) := by decide +kernel
theorem dX6_findFar_59 : decode cX6_findFar 59 = .ok (.aload_n 0, 1) := by decide +kernel
theorem dX6_findFar_60 : decode cX6_findFar 60 = .ok (.getfield 16, 3) := by decide +kernel
theorem dX6_findFar_63 : decode cX6_findFar 63 = .ok (.iload_n 1, 1) := by decide +kernel
theorem dX6_findFar_64 : decode cX6_findFar 64 = .ok (.iaload, 1) := by decide +kernel
theorem dX6_findFar_65 : decode cX6_findFar 65 = .ok (.if_icmp .ge 53, 3) := by decide +kernel
theorem dX6_findFar_68 : decode cX6_findFar 68 = .ok (.aload_n 0, 1) := by decide +kernel
theorem dX6_findFar_69 : decode cX6_findFar 69 = .ok (.getfield 32, 3) := by decide +kernel
theorem dX6_findFar_72 : decode cX6_findFar 72 = .ok (.iload 4, 2) := by decide +kernel
theorem dX6_findFar_74 : decode cX6_findFar 74 = .ok (.iaload, 1) := by decide +kernel
theorem dX6_findFar_75 : decode cX6_findFar 75 = .ok (.iload_n 3, 1) := by decide +kernel
theorem dX6_findFar_76 : decode cX6_findFar 76 = .ok (.if_icmp .ne 42, 3) := by decide +kernel
theorem dX6_findFar_79 : decode cX6_findFar 79 = .ok (.aload_n 0, 1) := by decide +kernel
theorem dX6_findFar_80 : decode cX6_findFar 80 = .ok (.getfield 32, 3) := by decide +kernel
theorem dX6_findFar_83 : decode cX6_findFar 83 = .ok (.iload 5, 2) := by decide +kernel
theorem dX6_findFar_85 : decode cX6_findFar 85 = .ok (.iaload, 1) := by decide +kernel
theorem dX6_findFar_86 : decode cX6_findFar 86 = .ok (.iconst (-1), 1) := by decide +kernel
theorem dX6_findFar_87 : decode cX6_findFar 87 = .ok (.if_icmp .ne 25, 3) := by decide +kernel
theorem dX6_findFar_90 : decode cX6_findFar 90 = .ok (.aload_n 0, 1) := by decide +kernel
theorem dX6_findFar_91 : decode cX6_findFar 91 = .ok (.iload_n 1, 1) := by decide +kernel
theorem dX6_findFar_92 : decode cX6_findFar 92 = .ok (.iload 4, 2) := by decide +kernel
theorem dX6_findFar_94 : decode cX6_findFar 94 = .ok (.iload 5, 2) := by decide +kernel
theorem dX6_findFar_96 : decode cX6_findFar 96 = .ok (.invokevirtual 136, 3) := by decide +kernel
theorem dX6_findFar_99 : decode cX6_findFar 99 = .ok (.ifCond .le 13, 3) := by decide +kernel
theorem dX6_findFar_102 : decode cX6_findFar 102 = .ok (.aload_n 0, 1) := by decide +kernel
theorem dX6_findFar_103 : decode cX6_findFar 103 = .ok (.getfield 32, 3) := by decide +kernel
theorem dX6_findFar_106 : decode cX6_findFar 106 = .ok (.iload 5, 2) := by decide +kernel
theorem dX6_findFar_108 : decode cX6_findFar 108 = .ok (.iload_n 3, 1) := by decide +kernel
theorem dX6_findFar_109 : decode cX6_findFar 109 = .ok (.iconst 1, 1) := by decide +kernel
theorem dX6_findFar_110 : decode cX6_findFar 110 = .ok (.iadd, 1) := by decide +kernel
theorem dX6_findFar_111 : decode cX6_findFar 111 = .ok (.iastore, 1) := by decide +kernel
theorem dX6_findFar_112 : decode cX6_findFar 112 = .ok (.iinc 5 1, 3) := by decide +kernel
theorem dX6_findFar_115 : decode cX6_findFar 115 = .ok (.goto (-58), 3) := by decide +kernel
theorem dX6_findFar_118 : decode cX6_findFar 118 = .ok (.iinc 4 1, 3) := by decide +kernel
theorem dX6_findFar_121 : decode cX6_findFar 121 = .ok (.goto (-78), 3) := by decide +kernel
theorem dX6_findFar_124 : decode cX6_findFar 124 = .ok (.iinc 3 1, 3) := by decide +kernel
theorem dX6_findFar_127 : decode cX6_findFar 127 = .ok (.goto (-97), 3) := by decide +kernel
theorem dX6_findFar_130 : decode cX6_findFar 130 = .ok (.return_, 1) := by decide +kernel
theorem dX6_way_0 : decode cX6_way 0 = .ok (.aload_n 0, 1) := by decide +kernel
theorem dX6_way_1 : decode cX6_way 1 = .ok (.iload_n 1, 1) := by decide +kernel
theorem dX6_way_2 : decode cX6_way 2 = .ok (.iload_n 2, 1) := by decide +kernel
theorem dX6_way_3 : decode cX6_way 3 = .ok (.invokevirtual 106, 3) := by decide +kernel
theorem dX6_way_6 : decode cX6_way 6 = .ok (.ifCond .eq 12, 3) := by decide +kernel
theorem dX6_way_9 : decode cX6_way 9 = .ok (.aload_n 0, 1) := by decide +kernel
theorem dX6_way_10 : decode cX6_way 10 = .ok (.iload_n 1, 1) := by decide +kernel
theorem dX6_way_11 : decode cX6_way 11 = .ok (.iload_n 3, 1) := by decide +kernel
theorem dX6_way_12 : decode cX6_way 12 = .ok (.invokevirtual 106, 3) := by decide +kernel
theorem dX6_way_15 : decode cX6_way 15 = .ok (.ifCond .ne 6, 3) := by decide +kernel
theorem dX6_way_18 : decode cX6_way 18 = .ok (.bipush (-2), 2) := by decide +kernel
theorem dX6_way_20 : decode cX6_way 20 = .ok (.ireturn, 1) := by decide +kernel
theorem dX6_way_21 : decode cX6_way 21 = .ok (.aload_n 0, 1) := by decide +kernel
theorem dX6_way_22 : decode cX6_way 22 = .ok (.iload_n 1, 1) := by decide +kernel
theorem dX6_way_23 : decode cX6_way 23 = .ok (.iload_n 3, 1) := by decide +kernel
theorem dX6_way_24 : decode cX6_way 24 = .ok (.invokevirtual 140, 3) := by decide +kernel
theorem dX6_way_27 : decode cX6_way 27 = .ok (.aload_n 0, 1) := by decide +kernel
theorem dX6_way_28 : decode cX6_way 28 = .ok (.getfield 32, 3) := by decide +kernel
theorem dX6_way_31 : decode cX6_way 31 = .ok (.iload_n 2, 1) := by decide +kernel
theorem dX6_way_32 : decode cX6_way 32 = .ok (.iaload, 1) := by decide +kernel
theorem dX6_way_33 : decode cX6_way 33 = .ok (.ireturn, 1) := by decide +kernel
theorem dX6_step_0 : decode cX6_step 0 = .ok (.aload_n 0, 1) := by decide +kernel
theorem dX6_step_1 : decode cX6_step 1 = .ok (.iload_n 1, 1) := by decide +kernel
theorem dX6_step_2 : decode cX6_step 2 = .ok (.iload_n 2, 1) := by decide +kernel
theorem dX6_step_3 : decode cX6_step 3 = .ok (.invokevirtual 106, 3) := by decide +kernel
theorem dX6_step_6 : decode cX6_step 6 = .ok (.ifCond .eq 12, 3) := by decide +kernel
theorem dX6_step_9 : decode cX6_step 9 = .ok (.aload_n 0, 1) := by decide +kernel
theorem dX6_step_10 : decode cX6_step 10 = .ok (.iload_n 1, 1) := by decide +kernel
theorem dX6_step_11 : decode cX6_step 11 = .ok (.iload_n 3, 1) := by decide +kernel
theorem dX6_step_12 : decode cX6_step 12 = .ok (.invokevirtual 106, 3) := by decide +kernel
theorem dX6_step_15 : decode cX6_step 15 = .ok (.ifCond .ne 6, 3) := by decide +kernel
theorem dX6_step_18 : decode cX6_step 18 = .ok (.bipush (-2), 2) := by decide +kernel
theorem dX6_step_20 : decode cX6_step 20 = .ok (.ireturn, 1) := by decide +kernel
theorem dX6_step_21 : decode cX6_step 21 = .ok (.aload_n 0, 1) := by decide +kernel
theorem dX6_step_22 : decode cX6_step 22 = .ok (.iload_n 1, 1) := by decide +kernel
theorem dX6_step_23 : decode cX6_step 23 = .ok (.iload_n 3, 1) := by decide +kernel
theorem dX6_step_24 : decode cX6_step 24 = .ok (.invokevirtual 140, 3) := by decide +kernel
theorem dX6_step_27 : decode cX6_step 27 = .ok (.iload 4, 2) := by decide +kernel
theorem dX6_step_29 : decode cX6_step 29 = .ok (.iconst 0, 1) := by decide +kernel
theorem dX6_step_30 : decode cX6_step 30 = .ok (.aload_n 0, 1) := by decide +kernel
theorem dX6_step_31 : decode cX6_step 31 = .ok (.getfield 32, 3) := by decide +kernel
theorem dX6_step_34 : decode cX6_step 34 = .ok (.iload_n 2, 1) := by decide +kernel
theorem dX6_step_35 : decode cX6_step 35 = .ok (.iaload, 1) := by decide +kernel
theorem dX6_step_36 : decode cX6_step 36 = .ok (.invokestatic 69, 3) := by decide +kernel
theorem dX6_step_39 : decode cX6_step 39 = .ok (.ifCond .ne 5, 3) := by decide +kernel
theorem dX6_step_42 : decode cX6_step 42 = .ok (.iconst (-1), 1) := by decide +kernel
theorem dX6_step_43 : decode cX6_step 43 = .ok (.ireturn, 1) := by decide +kernel
theorem dX6_step_44 : decode cX6_step 44 = .ok (.iload_n 2, 1) := by decide +kernel
theorem dX6_step_45 : decode cX6_step 45 = .ok (.istore 5, 2) := by decide +kernel
theorem dX6_step_47 : decode cX6_step 47 = .ok (.iconst 0, 1) := by decide +kernel
theorem dX6_step_48 : decode cX6_step 48 = .ok (.istore 6, 2) := by decide +kernel
theorem dX6_step_50 : decode cX6_step 50 = .ok (.iload 6, 2) := by decide +kernel
theorem dX6_step_52 : decode cX6_step 52 = .ok (.iload 4, 2) := by decide +kernel
theorem dX6_step_54 : decode cX6_step 54 = .ok (.if_icmp .ge 53, 3) := by decide +kernel
theorem dX6_step_57 : decode cX6_step 57 = .ok (.iconst 0, 1) := by decide +kernel
theorem dX6_step_58 : decode cX6_step 58 = .ok (.istore 7, 2) := by decide +kernel
theorem dX6_step_60 : decode cX6_step 60 = .ok (.aload_n 0, 1) := by decide +kernel
theorem dX6_step_61 : decode cX6_step 61 = .ok (.getfield 32, 3) := by decide +kernel
theorem dX6_step_64 : decode cX6_step 64 = .ok (.iload 7, 2) := by decide +kernel
theorem dX6_step_66 : decode cX6_step 66 = .ok (.iaload, 1) := by decide +kernel
theorem dX6_step_67 : decode cX6_step 67 = .ok (.aload_n 0, 1) := by decide +kernel
theorem dX6_step_68 : decode cX6_step 68 = .ok (.getfield 32, 3) := by decide +kernel
theorem dX6_step_71 : decode cX6_step 71 = .ok (.iload 5, 2) := by decide +kernel
theorem dX6_step_73 : decode cX6_step 73 = .ok (.iaload, 1) := by decide +kernel
theorem dX6_step_74 : decode cX6_step 74 = .ok (.iconst 1, 1) := by decide +kernel
theorem dX6_step_75 : decode cX6_step 75 = .ok (.isub, 1) := by decide +kernel
theorem dX6_step_76 : decode cX6_step 76 = .ok (.if_icmp .ne 15, 3) := by decide +kernel
theorem dX6_step_79 : decode cX6_step 79 = .ok (.aload_n 0, 1) := by decide +kernel
theorem dX6_step_80 : decode cX6_step 80 = .ok (.iload_n 1, 1) := by decide +kernel
theorem dX6_step_81 : decode cX6_step 81 = .ok (.iload 5, 2) := by decide +kernel
theorem dX6_step_83 : decode cX6_step 83 = .ok (.iload 7, 2) := by decide +kernel
theorem dX6_step_85 : decode cX6_step 85 = .ok (.invokevirtual 136, 3) := by decide +kernel
theorem dX6_step_88 : decode cX6_step 88 = .ok (.ifCond .ne 9, 3) := by decide +kernel
theorem dX6_step_91 : decode cX6_step 91 = .ok (.iinc 7 1, 3) := by decide +kernel
theorem dX6_step_94 : decode cX6_step 94 = .ok (.goto (-34), 3) := by decide +kernel
theorem dX6_step_97 : decode cX6_step 97 = .ok (.iload 7, 2) := by decide +kernel
theorem dX6_step_99 : decode cX6_step 99 = .ok (.istore 5, 2) := by decide +kernel
theorem dX6_step_101 : decode cX6_step 101 = .ok (.iinc 6 1, 3) := by decide +kernel
theorem dX6_step_104 : decode cX6_step 104 = .ok (.goto (-54), 3) := by decide +kernel
theorem dX6_step_107 : decode cX6_step 107 = .ok (.iload 5, 2) := by decide +kernel
theorem dX6_step_109 : decode cX6_step 109 = .ok (.ireturn, 1) := by decide +kernel
theorem dX6_square_0 : decode cX6_square 0 = .ok (.aload_n 0, 1) := by decide +kernel
theorem dX6_square_1 : decode cX6_square 1 = .ok (.iload_n 1, 1) := by decide +kernel
theorem dX6_square_2 : decode cX6_square 2 = .ok (.iload_n 3, 1) := by decide +kernel
theorem dX6_square_3 : decode cX6_square 3 = .ok (.invokevirtual 110, 3) := by decide +kernel
theorem dX6_square_6 : decode cX6_square 6 = .ok (.aload_n 0, 1) := by decide +kernel
theorem dX6_square_7 : decode cX6_square 7 = .ok (.iload_n 1, 1) := by decide +kernel
theorem dX6_square_8 : decode cX6_square 8 = .ok (.iload_n 2, 1) := by decide +kernel
theorem dX6_square_9 : decode cX6_square 9 = .ok (.invokevirtual 110, 3) := by decide +kernel
theorem dX6_square_12 : decode cX6_square 12 = .ok (.isub, 1) := by decide +kernel
theorem dX6_square_13 : decode cX6_square 13 = .ok (.istore 4, 2) := by decide +kernel
theorem dX6_square_15 : decode cX6_square 15 = .ok (.aload_n 0, 1) := by decide +kernel
theorem dX6_square_16 : decode cX6_square 16 = .ok (.iload_n 1, 1) := by decide +kernel
theorem dX6_square_17 : decode cX6_square 17 = .ok (.iload_n 3, 1) := by decide +kernel
theorem dX6_square_18 : decode cX6_square 18 = .ok (.invokevirtual 114, 3) := by decide +kernel
theorem dX6_square_21 : decode cX6_square 21 = .ok (.aload_n 0, 1) := by decide +kernel
theorem dX6_square_22 : decode cX6_square 22 = .ok (.iload_n 1, 1) := by decide +kernel
theorem dX6_square_23 : decode cX6_square 23 = .ok (.iload_n 2, 1) := by decide +kernel
theorem dX6_square_24 : decode cX6_square 24 = .ok (.invokevirtual 114, 3) := by decide +kernel
theorem dX6_square_27 : decode cX6_square 27 = .ok (.isub, 1) := by decide +kernel
theorem dX6_square_28 : decode cX6_square 28 = .ok (.istore 5, 2) := by decide +kernel
theorem dX6_square_30 : decode cX6_square 30 = .ok (.iload 4, 2) := by decide +kernel
theorem dX6_square_32 : decode cX6_square 32 = .ok (.iload 4, 2) := by decide +kernel
theorem dX6_square_34 : decode cX6_square 34 = .ok (.imul, 1) := by decide +kernel
theorem dX6_square_35 : decode cX6_square 35 = .ok (.iload 5, 2) := by decide +kernel
theorem dX6_square_37 : decode cX6_square 37 = .ok (.iload 5, 2) := by decide +kernel
theorem dX6_square_39 : decode cX6_square 39 = .ok (.imul, 1) := by decide +kernel
theorem dX6_square_40 : decode cX6_square 40 = .ok (.iadd, 1) := by decide +kernel
theorem dX6_square_41 : decode cX6_square 41 = .ok (.ireturn, 1) := by decide +kernel
theorem dX6_part_0 : decode cX6_part 0 = .ok (.aload_n 0, 1) := by decide +kernel
theorem dX6_part_1 : decode cX6_part 1 = .ok (.getfield 16, 3) := by decide +kernel
theorem dX6_part_4 : decode cX6_part 4 = .ok (.iload_n 1, 1) := by decide +kernel
theorem dX6_part_5 : decode cX6_part 5 = .ok (.iaload, 1) := by decide +kernel
theorem dX6_part_6 : decode cX6_part 6 = .ok (.istore_n 2, 1) := by decide +kernel
theorem dX6_part_7 : decode cX6_part 7 = .ok (.iconst 0, 1) := by decide +kernel
theorem dX6_part_8 : decode cX6_part 8 = .ok (.istore_n 3, 1) := by decide +kernel
theorem dX6_part_9 : decode cX6_part 9 = .ok (.iload_n 3, 1) := by decide +kernel
theorem dX6_part_10 : decode cX6_part 10 = .ok (.iload_n 2, 1) := by decide +kernel
theorem dX6_part_11 : decode cX6_part 11 = .ok (.if_icmp .ge 126, 3) := by decide +kernel
theorem dX6_part_14 : decode cX6_part 14 = .ok (.iload_n 3, 1) := by decide +kernel
theorem dX6_part_15 : decode cX6_part 15 = .ok (.iconst 1, 1) := by decide +kernel
theorem dX6_part_16 : decode cX6_part 16 = .ok (.iadd, 1) := by decide +kernel
theorem dX6_part_17 : decode cX6_part 17 = .ok (.istore 4, 2) := by decide +kernel
theorem dX6_part_19 : decode cX6_part 19 = .ok (.iload 4, 2) := by decide +kernel
theorem dX6_part_21 : decode cX6_part 21 = .ok (.iload_n 2, 1) := by decide +kernel
theorem dX6_part_22 : decode cX6_part 22 = .ok (.if_icmp .ge 109, 3) := by decide +kernel
theorem dX6_part_25 : decode cX6_part 25 = .ok (.aload_n 0, 1) := by decide +kernel
theorem dX6_part_26 : decode cX6_part 26 = .ok (.iload_n 1, 1) := by decide +kernel
theorem dX6_part_27 : decode cX6_part 27 = .ok (.iload_n 3, 1) := by decide +kernel
theorem dX6_part_28 : decode cX6_part 28 = .ok (.iload 4, 2) := by decide +kernel
theorem dX6_part_30 : decode cX6_part 30 = .ok (.invokevirtual 136, 3) := by decide +kernel
theorem dX6_part_33 : decode cX6_part 33 = .ok (.istore 5, 2) := by decide +kernel
theorem dX6_part_35 : decode cX6_part 35 = .ok (.aload_n 0, 1) := by decide +kernel
theorem dX6_part_36 : decode cX6_part 36 = .ok (.getfield 41, 3) := by decide +kernel
theorem dX6_part_39 : decode cX6_part 39 = .ok (.bipush 14, 2) := by decide +kernel
theorem dX6_part_41 : decode cX6_part 41 = .ok (.iload_n 3, 1) := by decide +kernel
theorem dX6_part_42 : decode cX6_part 42 = .ok (.imul, 1) := by decide +kernel
theorem dX6_part_43 : decode cX6_part 43 = .ok (.iload 4, 2) := by decide +kernel
theorem dX6_part_45 : decode cX6_part 45 = .ok (.iadd, 1) := by decide +kernel
theorem dX6_part_46 : decode cX6_part 46 = .ok (.iload 5, 2) := by decide +kernel
theorem dX6_part_48 : decode cX6_part 48 = .ok (.iconst 2, 1) := by decide +kernel
theorem dX6_part_49 : decode cX6_part 49 = .ok (.if_icmp .ne 7, 3) := by decide +kernel
theorem dX6_part_52 : decode cX6_part 52 = .ok (.iconst 0, 1) := by decide +kernel
theorem dX6_part_53 : decode cX6_part 53 = .ok (.goto 21, 3) := by decide +kernel
theorem dX6_part_56 : decode cX6_part 56 = .ok (.iload 5, 2) := by decide +kernel
theorem dX6_part_58 : decode cX6_part 58 = .ok (.iconst 1, 1) := by decide +kernel
theorem dX6_part_59 : decode cX6_part 59 = .ok (.if_icmp .ne 14, 3) := by decide +kernel
theorem dX6_part_62 : decode cX6_part 62 = .ok (.aload_n 0, 1) := by decide +kernel
theorem dX6_part_63 : decode cX6_part 63 = .ok (.iload_n 1, 1) := by decide +kernel
theorem dX6_part_64 : decode cX6_part 64 = .ok (.iload_n 3, 1) := by decide +kernel
theorem dX6_part_65 : decode cX6_part 65 = .ok (.iload 4, 2) := by decide +kernel
theorem dX6_part_67 : decode cX6_part 67 = .ok (.invokevirtual 144, 3) := by decide +kernel
theorem dX6_part_70 : decode cX6_part 70 = .ok (.goto 4, 3) := by decide +kernel
theorem dX6_part_73 : decode cX6_part 73 = .ok (.iconst (-1), 1) := by decide +kernel
theorem dX6_part_74 : decode cX6_part 74 = .ok (.iastore, 1) := by decide +kernel
theorem dX6_part_75 : decode cX6_part 75 = .ok (.aload_n 0, 1) := by decide +kernel
theorem dX6_part_76 : decode cX6_part 76 = .ok (.getfield 35, 3) := by decide +kernel
theorem dX6_part_79 : decode cX6_part 79 = .ok (.bipush 14, 2) := by decide +kernel
theorem dX6_part_81 : decode cX6_part 81 = .ok (.iload_n 3, 1) := by decide +kernel
theorem dX6_part_82 : decode cX6_part 82 = .ok (.imul, 1) := by decide +kernel
theorem dX6_part_83 : decode cX6_part 83 = .ok (.iload 4, 2) := by decide +kernel
theorem dX6_part_85 : decode cX6_part 85 = .ok (.iadd, 1) := by decide +kernel
theorem dX6_part_86 : decode cX6_part 86 = .ok (.iload 4, 2) := by decide +kernel
theorem dX6_part_88 : decode cX6_part 88 = .ok (.iload_n 3, 1) := by decide +kernel
theorem dX6_part_89 : decode cX6_part 89 = .ok (.iconst 1, 1) := by decide +kernel
theorem dX6_part_90 : decode cX6_part 90 = .ok (.iadd, 1) := by decide +kernel
theorem dX6_part_91 : decode cX6_part 91 = .ok (.if_icmp .ne 7, 3) := by decide +kernel
theorem dX6_part_94 : decode cX6_part 94 = .ok (.iconst 1, 1) := by decide +kernel
theorem dX6_part_95 : decode cX6_part 95 = .ok (.goto 4, 3) := by decide +kernel
theorem dX6_part_98 : decode cX6_part 98 = .ok (.iconst 0, 1) := by decide +kernel
theorem dX6_part_99 : decode cX6_part 99 = .ok (.iastore, 1) := by decide +kernel
theorem dX6_part_100 : decode cX6_part 100 = .ok (.aload_n 0, 1) := by decide +kernel
theorem dX6_part_101 : decode cX6_part 101 = .ok (.getfield 38, 3) := by decide +kernel
theorem dX6_part_104 : decode cX6_part 104 = .ok (.bipush 14, 2) := by decide +kernel
theorem dX6_part_106 : decode cX6_part 106 = .ok (.iload_n 3, 1) := by decide +kernel
theorem dX6_part_107 : decode cX6_part 107 = .ok (.imul, 1) := by decide +kernel
theorem dX6_part_108 : decode cX6_part 108 = .ok (.iload 4, 2) := by decide +kernel
theorem dX6_part_110 : decode cX6_part 110 = .ok (.iadd, 1) := by decide +kernel
theorem dX6_part_111 : decode cX6_part 111 = .ok (.iload 4, 2) := by decide +kernel
theorem dX6_part_113 : decode cX6_part 113 = .ok (.iload_n 3, 1) := by decide +kernel
theorem dX6_part_114 : decode cX6_part 114 = .ok (.iconst 1, 1) := by decide +kernel
theorem dX6_part_115 : decode cX6_part 115 = .ok (.iadd, 1) := by decide +kernel
theorem dX6_part_116 : decode cX6_part 116 = .ok (.if_icmp .ne 7, 3) := by decide +kernel
theorem dX6_part_119 : decode cX6_part 119 = .ok (.iconst 0, 1) := by decide +kernel
theorem dX6_part_120 : decode cX6_part 120 = .ok (.goto 4, 3) := by decide +kernel
theorem dX6_part_123 : decode cX6_part 123 = .ok (.iconst (-1), 1) := by decide +kernel
theorem dX6_part_124 : decode cX6_part 124 = .ok (.iastore, 1) := by decide +kernel
theorem dX6_part_125 : decode cX6_part 125 = .ok (.iinc 4 1, 3) := by decide +kernel
theorem dX6_part_128 : decode cX6_part 128 = .ok (.goto (-109), 3) := by decide +kernel
theorem dX6_part_131 : decode cX6_part 131 = .ok (.iinc 3 1, 3) := by decide +kernel
theorem dX6_part_134 : decode cX6_part 134 = .ok (.goto (-125), 3) := by decide +kernel
theorem dX6_part_137 : decode cX6_part 137 = .ok (.iconst 2, 1) := by decide +kernel
theorem dX6_part_138 : decode cX6_part 138 = .ok (.istore_n 3, 1) := by decide +kernel
theorem dX6_part_139 : decode cX6_part 139 = .ok (.iload_n 3, 1) := by decide +kernel
theorem dX6_part_140 : decode cX6_part 140 = .ok (.iload_n 2, 1) := by decide +kernel
theorem dX6_part_141 : decode cX6_part 141 = .ok (.if_icmp .ge 36, 3) := by decide +kernel
theorem dX6_part_144 : decode cX6_part 144 = .ok (.iconst 0, 1) := by decide +kernel
theorem dX6_part_145 : decode cX6_part 145 = .ok (.istore 4, 2) := by decide +kernel
theorem dX6_part_147 : decode cX6_part 147 = .ok (.iload 4, 2) := by decide +kernel
theorem dX6_part_149 : decode cX6_part 149 = .ok (.iload_n 3, 1) := by decide +kernel
theorem dX6_part_150 : decode cX6_part 150 = .ok (.iadd, 1) := by decide +kernel
theorem dX6_part_151 : decode cX6_part 151 = .ok (.iload_n 2, 1) := by decide +kernel
theorem dX6_part_152 : decode cX6_part 152 = .ok (.if_icmp .ge 19, 3) := by decide +kernel
theorem dX6_part_155 : decode cX6_part 155 = .ok (.aload_n 0, 1) := by decide +kernel
theorem dX6_part_156 : decode cX6_part 156 = .ok (.iload 4, 2) := by decide +kernel
theorem dX6_part_158 : decode cX6_part 158 = .ok (.iload 4, 2) := by decide +kernel
theorem dX6_part_160 : decode cX6_part 160 = .ok (.iload_n 3, 1) := by decide +kernel
theorem dX6_part_161 : decode cX6_part 161 = .ok (.iadd, 1) := by decide +kernel
theorem dX6_part_162 : decode cX6_part 162 = .ok (.invokevirtual 147, 3) := by decide +kernel
theorem dX6_part_165 : decode cX6_part 165 = .ok (.iinc 4 1, 3) := by decide +kernel
theorem dX6_part_168 : decode cX6_part 168 = .ok (.goto (-21), 3) := by decide +kernel
theorem dX6_part_171 : decode cX6_part 171 = .ok (.iinc 3 1, 3) := by decide +kernel
theorem dX6_part_174 : decode cX6_part 174 = .ok (.goto (-35), 3) := by decide +kernel
theorem dX6_part_177 : decode cX6_part 177 = .ok (.return_, 1) := by decide +kernel
theorem dX6_sumBy_0 : decode cX6_sumBy 0 = .ok (.aload_n 0, 1) := by decide +kernel
theorem dX6_sumBy_1 : decode cX6_sumBy 1 = .ok (.getfield 41, 3) := by decide +kernel
theorem dX6_sumBy_4 : decode cX6_sumBy 4 = .ok (.bipush 14, 2) := by decide +kernel
theorem dX6_sumBy_6 : decode cX6_sumBy 6 = .ok (.iload_n 1, 1) := by decide +kernel
theorem dX6_sumBy_7 : decode cX6_sumBy 7 = .ok (.imul, 1) := by decide +kernel
theorem dX6_sumBy_8 : decode cX6_sumBy 8 = .ok (.iload_n 2, 1) := by decide +kernel
theorem dX6_sumBy_9 : decode cX6_sumBy 9 = .ok (.iadd, 1) := by decide +kernel
theorem dX6_sumBy_10 : decode cX6_sumBy 10 = .ok (.iaload, 1) := by decide +kernel
theorem dX6_sumBy_11 : decode cX6_sumBy 11 = .ok (.iconst (-1), 1) := by decide +kernel
theorem dX6_sumBy_12 : decode cX6_sumBy 12 = .ok (.if_icmp .eq 48, 3) := by decide +kernel
theorem dX6_sumBy_15 : decode cX6_sumBy 15 = .ok (.aload_n 0, 1) := by decide +kernel
theorem dX6_sumBy_16 : decode cX6_sumBy 16 = .ok (.getfield 41, 3) := by decide +kernel
theorem dX6_sumBy_19 : decode cX6_sumBy 19 = .ok (.bipush 14, 2) := by decide +kernel
theorem dX6_sumBy_21 : decode cX6_sumBy 21 = .ok (.iload_n 2, 1) := by decide +kernel
theorem dX6_sumBy_22 : decode cX6_sumBy 22 = .ok (.imul, 1) := by decide +kernel
theorem dX6_sumBy_23 : decode cX6_sumBy 23 = .ok (.iload_n 3, 1) := by decide +kernel
theorem dX6_sumBy_24 : decode cX6_sumBy 24 = .ok (.iadd, 1) := by decide +kernel
theorem dX6_sumBy_25 : decode cX6_sumBy 25 = .ok (.iaload, 1) := by decide +kernel
theorem dX6_sumBy_26 : decode cX6_sumBy 26 = .ok (.iconst (-1), 1) := by decide +kernel
theorem dX6_sumBy_27 : decode cX6_sumBy 27 = .ok (.if_icmp .eq 33, 3) := by decide +kernel
theorem dX6_sumBy_30 : decode cX6_sumBy 30 = .ok (.aload_n 0, 1) := by decide +kernel
theorem dX6_sumBy_31 : decode cX6_sumBy 31 = .ok (.getfield 38, 3) := by decide +kernel
theorem dX6_sumBy_34 : decode cX6_sumBy 34 = .ok (.bipush 14, 2) := by decide +kernel
theorem dX6_sumBy_36 : decode cX6_sumBy 36 = .ok (.iload_n 1, 1) := by decide +kernel
theorem dX6_sumBy_37 : decode cX6_sumBy 37 = .ok (.imul, 1) := by decide +kernel
theorem dX6_sumBy_38 : decode cX6_sumBy 38 = .ok (.iload_n 2, 1) := by decide +kernel
theorem dX6_sumBy_39 : decode cX6_sumBy 39 = .ok (.iadd, 1) := by decide +kernel
theorem dX6_sumBy_40 : decode cX6_sumBy 40 = .ok (.iaload, 1) := by decide +kernel
theorem dX6_sumBy_41 : decode cX6_sumBy 41 = .ok (.iconst (-1), 1) := by decide +kernel
theorem dX6_sumBy_42 : decode cX6_sumBy 42 = .ok (.if_icmp .eq 18, 3) := by decide +kernel
theorem dX6_sumBy_45 : decode cX6_sumBy 45 = .ok (.aload_n 0, 1) := by decide +kernel
theorem dX6_sumBy_46 : decode cX6_sumBy 46 = .ok (.getfield 38, 3) := by decide +kernel
theorem dX6_sumBy_49 : decode cX6_sumBy 49 = .ok (.bipush 14, 2) := by decide +kernel
theorem dX6_sumBy_51 : decode cX6_sumBy 51 = .ok (.iload_n 2, 1) := by decide +kernel
theorem dX6_sumBy_52 : decode cX6_sumBy 52 = .ok (.imul, 1) := by decide +kernel
theorem dX6_sumBy_53 : decode cX6_sumBy 53 = .ok (.iload_n 3, 1) := by decide +kernel
theorem dX6_sumBy_54 : decode cX6_sumBy 54 = .ok (.iadd, 1) := by decide +kernel
theorem dX6_sumBy_55 : decode cX6_sumBy 55 = .ok (.iaload, 1) := by decide +kernel
theorem dX6_sumBy_56 : decode cX6_sumBy 56 = .ok (.iconst (-1), 1) := by decide +kernel
theorem dX6_sumBy_57 : decode cX6_sumBy 57 = .ok (.if_icmp .ne 5, 3) := by decide +kernel
theorem dX6_sumBy_60 : decode cX6_sumBy 60 = .ok (.iconst (-1), 1) := by decide +kernel
theorem dX6_sumBy_61 : decode cX6_sumBy 61 = .ok (.ireturn, 1) := by decide +kernel
theorem dX6_sumBy_62 : decode cX6_sumBy 62 = .ok (.aload_n 0, 1) := by decide +kernel
theorem dX6_sumBy_63 : decode cX6_sumBy 63 = .ok (.getfield 38, 3) := by decide +kernel
theorem dX6_sumBy_66 : decode cX6_sumBy 66 = .ok (.bipush 14, 2) := by decide +kernel
theorem dX6_sumBy_68 : decode cX6_sumBy 68 = .ok (.iload_n 1, 1) := by decide +kernel
theorem dX6_sumBy_69 : decode cX6_sumBy 69 = .ok (.imul, 1) := by decide +kernel
theorem dX6_sumBy_70 : decode cX6_sumBy 70 = .ok (.iload_n 2, 1) := by decide +kernel
theorem dX6_sumBy_71 : decode cX6_sumBy 71 = .ok (.iadd, 1) := by decide +kernel
theorem dX6_sumBy_72 : decode cX6_sumBy 72 = .ok (.iaload, 1) := by decide +kernel
theorem dX6_sumBy_73 : decode cX6_sumBy 73 = .ok (.aload_n 0, 1) := by decide +kernel
theorem dX6_sumBy_74 : decode cX6_sumBy 74 = .ok (.getfield 38, 3) := by decide +kernel
theorem dX6_sumBy_77 : decode cX6_sumBy 77 = .ok (.bipush 14, 2) := by decide +kernel
theorem dX6_sumBy_79 : decode cX6_sumBy 79 = .ok (.iload_n 2, 1) := by decide +kernel
theorem dX6_sumBy_80 : decode cX6_sumBy 80 = .ok (.imul, 1) := by decide +kernel
theorem dX6_sumBy_81 : decode cX6_sumBy 81 = .ok (.iload_n 3, 1) := by decide +kernel
theorem dX6_sumBy_82 : decode cX6_sumBy 82 = .ok (.iadd, 1) := by decide +kernel
theorem dX6_sumBy_83 : decode cX6_sumBy 83 = .ok (.iaload, 1) := by decide +kernel
theorem dX6_sumBy_84 : decode cX6_sumBy 84 = .ok (.iadd, 1) := by decide +kernel
theorem dX6_sumBy_85 : decode cX6_sumBy 85 = .ok (.aload_n 0, 1) := by decide +kernel
theorem dX6_sumBy_86 : decode cX6_sumBy 86 = .ok (.getfield 41, 3) := by decide +kernel
theorem dX6_sumBy_89 : decode cX6_sumBy 89 = .ok (.bipush 14, 2) := by decide +kernel
theorem dX6_sumBy_91 : decode cX6_sumBy 91 = .ok (.iload_n 1, 1) := by decide +kernel
theorem dX6_sumBy_92 : decode cX6_sumBy 92 = .ok (.imul, 1) := by decide +kernel
theorem dX6_sumBy_93 : decode cX6_sumBy 93 = .ok (.iload_n 2, 1) := by decide +kernel
theorem dX6_sumBy_94 : decode cX6_sumBy 94 = .ok (.iadd, 1) := by decide +kernel
theorem dX6_sumBy_95 : decode cX6_sumBy 95 = .ok (.iaload, 1) := by decide +kernel
theorem dX6_sumBy_96 : decode cX6_sumBy 96 = .ok (.iadd, 1) := by decide +kernel
theorem dX6_sumBy_97 : decode cX6_sumBy 97 = .ok (.aload_n 0, 1) := by decide +kernel
theorem dX6_sumBy_98 : decode cX6_sumBy 98 = .ok (.getfield 41, 3) := by decide +kernel
theorem dX6_sumBy_101 : decode cX6_sumBy 101 = .ok (.bipush 14, 2) := by decide +kernel
theorem dX6_sumBy_103 : decode cX6_sumBy 103 = .ok (.iload_n 2, 1) := by decide +kernel
theorem dX6_sumBy_104 : decode cX6_sumBy 104 = .ok (.imul, 1) := by decide +kernel
theorem dX6_sumBy_105 : decode cX6_sumBy 105 = .ok (.iload_n 3, 1) := by decide +kernel
theorem dX6_sumBy_106 : decode cX6_sumBy 106 = .ok (.iadd, 1) := by decide +kernel
theorem dX6_sumBy_107 : decode cX6_sumBy 107 = .ok (.iaload, 1) := by decide +kernel
theorem dX6_sumBy_108 : decode cX6_sumBy 108 = .ok (.iadd, 1) := by decide +kernel
theorem dX6_sumBy_109 : decode cX6_sumBy 109 = .ok (.ireturn, 1) := by decide +kernel
theorem dX6_partChain_0 : decode cX6_partChain 0 = .ok (.iconst 0, 1) := by decide +kernel
theorem dX6_partChain_1 : decode cX6_partChain 1 = .ok (.istore_n 3, 1) := by decide +kernel
theorem dX6_partChain_2 : decode cX6_partChain 2 = .ok (.iconst (-1), 1) := by decide +kernel
theorem dX6_partChain_3 : decode cX6_partChain 3 = .ok (.istore 4, 2) := by decide +kernel
theorem dX6_partChain_5 : decode cX6_partChain 5 = .ok (.iload_n 1, 1) := by decide +kernel
theorem dX6_partChain_6 : decode cX6_partChain 6 = .ok (.iconst 1, 1) := by decide +kernel
theorem dX6_partChain_7 : decode cX6_partChain 7 = .ok (.iadd, 1) := by decide +kernel
theorem dX6_partChain_8 : decode cX6_partChain 8 = .ok (.istore 5, 2) := by decide +kernel
theorem dX6_partChain_10 : decode cX6_partChain 10 = .ok (.iload 5, 2) := by decide +kernel
theorem dX6_partChain_12 : decode cX6_partChain 12 = .ok (.iload_n 2, 1) := by decide +kernel
theorem dX6_partChain_13 : decode cX6_partChain 13 = .ok (.if_icmp .ge 75, 3) := by decide +kernel
theorem dX6_partChain_16 : decode cX6_partChain 16 = .ok (.aload_n 0, 1) := by decide +kernel
theorem dX6_partChain_17 : decode cX6_partChain 17 = .ok (.iload_n 1, 1) := by decide +kernel
theorem dX6_partChain_18 : decode cX6_partChain 18 = .ok (.iload 5, 2) := by decide +kernel
theorem dX6_partChain_20 : decode cX6_partChain 20 = .ok (.iload_n 2, 1) := by decide +kernel
theorem dX6_partChain_21 : decode cX6_partChain 21 = .ok (.invokevirtual 150, 3) := by decide +kernel
theorem dX6_partChain_24 : decode cX6_partChain 24 = .ok (.istore 6, 2) := by decide +kernel
theorem dX6_partChain_26 : decode cX6_partChain 26 = .ok (.iload 6, 2) := by decide +kernel
theorem dX6_partChain_28 : decode cX6_partChain 28 = .ok (.iconst (-1), 1) := by decide +kernel
theorem dX6_partChain_29 : decode cX6_partChain 29 = .ok (.if_icmp .eq 53, 3) := by decide +kernel
theorem dX6_partChain_32 : decode cX6_partChain 32 = .ok (.iload_n 3, 1) := by decide +kernel
theorem dX6_partChain_33 : decode cX6_partChain 33 = .ok (.aload_n 0, 1) := by decide +kernel
theorem dX6_partChain_34 : decode cX6_partChain 34 = .ok (.getfield 35, 3) := by decide +kernel
theorem dX6_partChain_37 : decode cX6_partChain 37 = .ok (.bipush 14, 2) := by decide +kernel
theorem dX6_partChain_39 : decode cX6_partChain 39 = .ok (.iload_n 1, 1) := by decide +kernel
theorem dX6_partChain_40 : decode cX6_partChain 40 = .ok (.imul, 1) := by decide +kernel
theorem dX6_partChain_41 : decode cX6_partChain 41 = .ok (.iload 5, 2) := by decide +kernel
theorem dX6_partChain_43 : decode cX6_partChain 43 = .ok (.iadd, 1) := by decide +kernel
theorem dX6_partChain_44 : decode cX6_partChain 44 = .ok (.iaload, 1) := by decide +kernel
theorem dX6_partChain_45 : decode cX6_partChain 45 = .ok (.aload_n 0, 1) := by decide +kernel
theorem dX6_partChain_46 : decode cX6_partChain 46 = .ok (.getfield 35, 3) := by decide +kernel
theorem dX6_partChain_49 : decode cX6_partChain 49 = .ok (.bipush 14, 2) := by decide +kernel
theorem dX6_partChain_51 : decode cX6_partChain 51 = .ok (.iload 5, 2) := by decide +kernel
theorem dX6_partChain_53 : decode cX6_partChain 53 = .ok (.imul, 1) := by decide +kernel
theorem dX6_partChain_54 : decode cX6_partChain 54 = .ok (.iload_n 2, 1) := by decide +kernel
theorem dX6_partChain_55 : decode cX6_partChain 55 = .ok (.iadd, 1) := by decide +kernel
theorem dX6_partChain_56 : decode cX6_partChain 56 = .ok (.iaload, 1) := by decide +kernel
theorem dX6_partChain_57 : decode cX6_partChain 57 = .ok (.imul, 1) := by decide +kernel
theorem dX6_partChain_58 : decode cX6_partChain 58 = .ok (.iadd, 1) := by decide +kernel
theorem dX6_partChain_59 : decode cX6_partChain 59 = .ok (.istore_n 3, 1) := by decide +kernel
theorem dX6_partChain_60 : decode cX6_partChain 60 = .ok (.iload 4, 2) := by decide +kernel
theorem dX6_partChain_62 : decode cX6_partChain 62 = .ok (.iconst (-1), 1) := by decide +kernel
theorem dX6_partChain_63 : decode cX6_partChain 63 = .ok (.if_icmp .eq 10, 3) := by decide +kernel
theorem dX6_partChain_66 : decode cX6_partChain 66 = .ok (.iload 6, 2) := by decide +kernel
theorem dX6_partChain_68 : decode cX6_partChain 68 = .ok (.iload 4, 2) := by decide +kernel
theorem dX6_partChain_70 : decode cX6_partChain 70 = .ok (.if_icmp .ge 8, 3) := by decide +kernel
theorem dX6_partChain_73 : decode cX6_partChain 73 = .ok (.iload 6, 2) := by decide +kernel
theorem dX6_partChain_75 : decode cX6_partChain 75 = .ok (.goto 5, 3) := by decide +kernel
theorem dX6_partChain_78 : decode cX6_partChain 78 = .ok (.iload 4, 2) := by decide +kernel
theorem dX6_partChain_80 : decode cX6_partChain 80 = .ok (.istore 4, 2) := by decide +kernel
theorem dX6_partChain_82 : decode cX6_partChain 82 = .ok (.iinc 5 1, 3) := by decide +kernel
theorem dX6_partChain_85 : decode cX6_partChain 85 = .ok (.goto (-75), 3) := by decide +kernel
theorem dX6_partChain_88 : decode cX6_partChain 88 = .ok (.aload_n 0, 1) := by decide +kernel
theorem dX6_partChain_89 : decode cX6_partChain 89 = .ok (.getfield 35, 3) := by decide +kernel
theorem dX6_partChain_92 : decode cX6_partChain 92 = .ok (.bipush 14, 2) := by decide +kernel
theorem dX6_partChain_94 : decode cX6_partChain 94 = .ok (.iload_n 1, 1) := by decide +kernel
theorem dX6_partChain_95 : decode cX6_partChain 95 = .ok (.imul, 1) := by decide +kernel
theorem dX6_partChain_96 : decode cX6_partChain 96 = .ok (.iload_n 2, 1) := by decide +kernel
theorem dX6_partChain_97 : decode cX6_partChain 97 = .ok (.iadd, 1) := by decide +kernel
theorem dX6_partChain_98 : decode cX6_partChain 98 = .ok (.iload_n 3, 1) := by decide +kernel
theorem dX6_partChain_99 : decode cX6_partChain 99 = .ok (.iastore, 1) := by decide +kernel
theorem dX6_partChain_100 : decode cX6_partChain 100 = .ok (.aload_n 0, 1) := by decide +kernel
theorem dX6_partChain_101 : decode cX6_partChain 101 = .ok (.getfield 38, 3) := by decide +kernel
theorem dX6_partChain_104 : decode cX6_partChain 104 = .ok (.bipush 14, 2) := by decide +kernel
theorem dX6_partChain_106 : decode cX6_partChain 106 = .ok (.iload_n 1, 1) := by decide +kernel
theorem dX6_partChain_107 : decode cX6_partChain 107 = .ok (.imul, 1) := by decide +kernel
theorem dX6_partChain_108 : decode cX6_partChain 108 = .ok (.iload_n 2, 1) := by decide +kernel
theorem dX6_partChain_109 : decode cX6_partChain 109 = .ok (.iadd, 1) := by decide +kernel
theorem dX6_partChain_110 : decode cX6_partChain 110 = .ok (.iload 4, 2) := by decide +kernel
theorem dX6_partChain_112 : decode cX6_partChain 112 = .ok (.iastore, 1) := by decide +kernel
theorem dX6_partChain_113 : decode cX6_partChain 113 = .ok (.return_, 1) := by decide +kernel
theorem dX6_triangulations_0 : decode cX6_triangulations 0 = .ok (.aload_n 0, 1) := by decide +kernel
theorem dX6_triangulations_1 : decode cX6_triangulations 1 = .ok (.iload_n 1, 1) := by decide +kernel
theorem dX6_triangulations_2 : decode cX6_triangulations 2 = .ok (.invokevirtual 102, 3) := by decide +kernel
theorem dX6_triangulations_5 : decode cX6_triangulations 5 = .ok (.ifCond .ne 6, 3) := by decide +kernel
theorem dX6_triangulations_8 : decode cX6_triangulations 8 = .ok (.bipush (-2), 2) := by decide +kernel
theorem dX6_triangulations_10 : decode cX6_triangulations 10 = .ok (.ireturn, 1) := by decide +kernel
theorem dX6_triangulations_11 : decode cX6_triangulations 11 = .ok (.aload_n 0, 1) := by decide +kernel
theorem dX6_triangulations_12 : decode cX6_triangulations 12 = .ok (.iload_n 1, 1) := by decide +kernel
theorem dX6_triangulations_13 : decode cX6_triangulations 13 = .ok (.invokevirtual 153, 3) := by decide +kernel
theorem dX6_triangulations_16 : decode cX6_triangulations 16 = .ok (.aload_n 0, 1) := by decide +kernel
theorem dX6_triangulations_17 : decode cX6_triangulations 17 = .ok (.getfield 35, 3) := by decide +kernel
theorem dX6_triangulations_20 : decode cX6_triangulations 20 = .ok (.aload_n 0, 1) := by decide +kernel
theorem dX6_triangulations_21 : decode cX6_triangulations 21 = .ok (.getfield 16, 3) := by decide +kernel
theorem dX6_triangulations_24 : decode cX6_triangulations 24 = .ok (.iload_n 1, 1) := by decide +kernel
theorem dX6_triangulations_25 : decode cX6_triangulations 25 = .ok (.iaload, 1) := by decide +kernel
theorem dX6_triangulations_26 : decode cX6_triangulations 26 = .ok (.iconst 1, 1) := by decide +kernel
theorem dX6_triangulations_27 : decode cX6_triangulations 27 = .ok (.isub, 1) := by decide +kernel
theorem dX6_triangulations_28 : decode cX6_triangulations 28 = .ok (.iaload, 1) := by decide +kernel
theorem dX6_triangulations_29 : decode cX6_triangulations 29 = .ok (.ireturn, 1) := by decide +kernel
theorem dX6_best_0 : decode cX6_best 0 = .ok (.aload_n 0, 1) := by decide +kernel
theorem dX6_best_1 : decode cX6_best 1 = .ok (.iload_n 1, 1) := by decide +kernel
theorem dX6_best_2 : decode cX6_best 2 = .ok (.invokevirtual 102, 3) := by decide +kernel
theorem dX6_best_5 : decode cX6_best 5 = .ok (.ifCond .ne 6, 3) := by decide +kernel
theorem dX6_best_8 : decode cX6_best 8 = .ok (.bipush (-2), 2) := by decide +kernel
theorem dX6_best_10 : decode cX6_best 10 = .ok (.ireturn, 1) := by decide +kernel
theorem dX6_best_11 : decode cX6_best 11 = .ok (.aload_n 0, 1) := by decide +kernel
theorem dX6_best_12 : decode cX6_best 12 = .ok (.iload_n 1, 1) := by decide +kernel
theorem dX6_best_13 : decode cX6_best 13 = .ok (.invokevirtual 153, 3) := by decide +kernel
theorem dX6_best_16 : decode cX6_best 16 = .ok (.aload_n 0, 1) := by decide +kernel
theorem dX6_best_17 : decode cX6_best 17 = .ok (.getfield 38, 3) := by decide +kernel
theorem dX6_best_20 : decode cX6_best 20 = .ok (.aload_n 0, 1) := by decide +kernel
theorem dX6_best_21 : decode cX6_best 21 = .ok (.getfield 16, 3) := by decide +kernel
theorem dX6_best_24 : decode cX6_best 24 = .ok (.iload_n 1, 1) := by decide +kernel
theorem dX6_best_25 : decode cX6_best 25 = .ok (.iaload, 1) := by decide +kernel
theorem dX6_best_26 : decode cX6_best 26 = .ok (.iconst 1, 1) := by decide +kernel
theorem dX6_best_27 : decode cX6_best 27 = .ok (.isub, 1) := by decide +kernel
theorem dX6_best_28 : decode cX6_best 28 = .ok (.iaload, 1) := by decide +kernel
theorem dX6_best_29 : decode cX6_best 29 = .ok (.ireturn, 1) := by decide +kernel
theorem dX6_layTriangles_0 : decode cX6_layTriangles 0 = .ok (.aload_n 0, 1) := by decide +kernel
theorem dX6_layTriangles_1 : decode cX6_layTriangles 1 = .ok (.iload_n 1, 1) := by decide +kernel
theorem dX6_layTriangles_2 : decode cX6_layTriangles 2 = .ok (.invokevirtual 153, 3) := by decide +kernel
theorem dX6_layTriangles_5 : decode cX6_layTriangles 5 = .ok (.aload_n 0, 1) := by decide +kernel
theorem dX6_layTriangles_6 : decode cX6_layTriangles 6 = .ok (.iconst 0, 1) := by decide +kernel
theorem dX6_layTriangles_7 : decode cX6_layTriangles 7 = .ok (.putfield 157, 3) := by decide +kernel
theorem dX6_layTriangles_10 : decode cX6_layTriangles 10 = .ok (.aload_n 0, 1) := by decide +kernel
theorem dX6_layTriangles_11 : decode cX6_layTriangles 11 = .ok (.getfield 53, 3) := by decide +kernel
theorem dX6_layTriangles_14 : decode cX6_layTriangles 14 = .ok (.iconst 0, 1) := by decide +kernel
theorem dX6_layTriangles_15 : decode cX6_layTriangles 15 = .ok (.iconst 0, 1) := by decide +kernel
theorem dX6_layTriangles_16 : decode cX6_layTriangles 16 = .ok (.iastore, 1) := by decide +kernel
theorem dX6_layTriangles_17 : decode cX6_layTriangles 17 = .ok (.aload_n 0, 1) := by decide +kernel
theorem dX6_layTriangles_18 : decode cX6_layTriangles 18 = .ok (.getfield 53, 3) := by decide +kernel
theorem dX6_layTriangles_21 : decode cX6_layTriangles 21 = .ok (.iconst 1, 1) := by decide +kernel
theorem dX6_layTriangles_22 : decode cX6_layTriangles 22 = .ok (.aload_n 0, 1) := by decide +kernel
theorem dX6_layTriangles_23 : decode cX6_layTriangles 23 = .ok (.getfield 16, 3) := by decide +kernel
theorem dX6_layTriangles_26 : decode cX6_layTriangles 26 = .ok (.iload_n 1, 1) := by decide +kernel
theorem dX6_layTriangles_27 : decode cX6_layTriangles 27 = .ok (.iaload, 1) := by decide +kernel
theorem dX6_layTriangles_28 : decode cX6_layTriangles 28 = .ok (.iconst 1, 1) := by decide +kernel
theorem dX6_layTriangles_29 : decode cX6_layTriangles 29 = .ok (.isub, 1) := by decide +kernel
theorem dX6_layTriangles_30 : decode cX6_layTriangles 30 = .ok (.iastore, 1) := by decide +kernel
theorem dX6_layTriangles_31 : decode cX6_layTriangles 31 = .ok (.iconst 2, 1) := by decide +kernel
theorem dX6_layTriangles_32 : decode cX6_layTriangles 32 = .ok (.istore_n 2, 1) := by decide +kernel
theorem dX6_layTriangles_33 : decode cX6_layTriangles 33 = .ok (.iload_n 2, 1) := by decide +kernel
theorem dX6_layTriangles_34 : decode cX6_layTriangles 34 = .ok (.ifCond .le 151, 3) := by decide +kernel
theorem dX6_layTriangles_37 : decode cX6_layTriangles 37 = .ok (.iinc 2 (-2), 3) := by decide +kernel
theorem dX6_layTriangles_40 : decode cX6_layTriangles 40 = .ok (.aload_n 0, 1) := by decide +kernel
theorem dX6_layTriangles_41 : decode cX6_layTriangles 41 = .ok (.getfield 53, 3) := by decide +kernel
theorem dX6_layTriangles_44 : decode cX6_layTriangles 44 = .ok (.iload_n 2, 1) := by decide +kernel
theorem dX6_layTriangles_45 : decode cX6_layTriangles 45 = .ok (.iaload, 1) := by decide +kernel
theorem dX6_layTriangles_46 : decode cX6_layTriangles 46 = .ok (.istore_n 3, 1) := by decide +kernel
theorem dX6_layTriangles_47 : decode cX6_layTriangles 47 = .ok (.aload_n 0, 1) := by decide +kernel
theorem dX6_layTriangles_48 : decode cX6_layTriangles 48 = .ok (.getfield 53, 3) := by decide +kernel
theorem dX6_layTriangles_51 : decode cX6_layTriangles 51 = .ok (.iload_n 2, 1) := by decide +kernel
theorem dX6_layTriangles_52 : decode cX6_layTriangles 52 = .ok (.iconst 1, 1) := by decide +kernel
theorem dX6_layTriangles_53 : decode cX6_layTriangles 53 = .ok (.iadd, 1) := by decide +kernel
theorem dX6_layTriangles_54 : decode cX6_layTriangles 54 = .ok (.iaload, 1) := by decide +kernel
theorem dX6_layTriangles_55 : decode cX6_layTriangles 55 = .ok (.istore 4, 2) := by decide +kernel
theorem dX6_layTriangles_57 : decode cX6_layTriangles 57 = .ok (.iload 4, 2) := by decide +kernel
theorem dX6_layTriangles_59 : decode cX6_layTriangles 59 = .ok (.iload_n 3, 1) := by decide +kernel
theorem dX6_layTriangles_60 : decode cX6_layTriangles 60 = .ok (.isub, 1) := by decide +kernel
theorem dX6_layTriangles_61 : decode cX6_layTriangles 61 = .ok (.iconst 1, 1) := by decide +kernel
theorem dX6_layTriangles_62 : decode cX6_layTriangles 62 = .ok (.if_icmp .le 120, 3) := by decide +kernel
theorem dX6_layTriangles_65 : decode cX6_layTriangles 65 = .ok (.iload_n 3, 1) := by decide +kernel
theorem dX6_layTriangles_66 : decode cX6_layTriangles 66 = .ok (.iconst 1, 1) := by decide +kernel
theorem dX6_layTriangles_67 : decode cX6_layTriangles 67 = .ok (.iadd, 1) := by decide +kernel
theorem dX6_layTriangles_68 : decode cX6_layTriangles 68 = .ok (.istore 5, 2) := by decide +kernel
theorem dX6_layTriangles_70 : decode cX6_layTriangles 70 = .ok (.aload_n 0, 1) := by decide +kernel
theorem dX6_layTriangles_71 : decode cX6_layTriangles 71 = .ok (.iload_n 3, 1) := by decide +kernel
theorem dX6_layTriangles_72 : decode cX6_layTriangles 72 = .ok (.iload 5, 2) := by decide +kernel
theorem dX6_layTriangles_74 : decode cX6_layTriangles 74 = .ok (.iload 4, 2) := by decide +kernel
theorem dX6_layTriangles_76 : decode cX6_layTriangles 76 = .ok (.invokevirtual 150, 3) := by decide +kernel
theorem dX6_layTriangles_79 : decode cX6_layTriangles 79 = .ok (.aload_n 0, 1) := by decide +kernel
theorem dX6_layTriangles_80 : decode cX6_layTriangles 80 = .ok (.getfield 38, 3) := by decide +kernel
theorem dX6_layTriangles_83 : decode cX6_layTriangles 83 = .ok (.bipush 14, 2) := by decide +kernel
theorem dX6_layTriangles_85 : decode cX6_layTriangles 85 = .ok (.iload_n 3, 1) := by decide +kernel
theorem dX6_layTriangles_86 : decode cX6_layTriangles 86 = .ok (.imul, 1) := by decide +kernel
theorem dX6_layTriangles_87 : decode cX6_layTriangles 87 = .ok (.iload 4, 2) := by decide +kernel
theorem dX6_layTriangles_89 : decode cX6_layTriangles 89 = .ok (.iadd, 1) := by decide +kernel
theorem dX6_layTriangles_90 : decode cX6_layTriangles 90 = .ok (.iaload, 1) := by decide +kernel
theorem dX6_layTriangles_91 : decode cX6_layTriangles 91 = .ok (.if_icmp .eq 9, 3) := by decide +kernel
theorem dX6_layTriangles_94 : decode cX6_layTriangles 94 = .ok (.iinc 5 1, 3) := by decide +kernel
theorem dX6_layTriangles_97 : decode cX6_layTriangles 97 = .ok (.goto (-27), 3) := by decide +kernel
theorem dX6_layTriangles_100 : decode cX6_layTriangles 100 = .ok (.aload_n 0, 1) := by decide +kernel
theorem dX6_layTriangles_101 : decode cX6_layTriangles 101 = .ok (.getfield 44, 3) := by decide +kernel
theorem dX6_layTriangles_104 : decode cX6_layTriangles 104 = .ok (.aload_n 0, 1) := by decide +kernel
theorem dX6_layTriangles_105 : decode cX6_layTriangles 105 = .ok (.getfield 157, 3) := by decide +kernel
theorem dX6_layTriangles_108 : decode cX6_layTriangles 108 = .ok (.iload_n 3, 1) := by decide +kernel
theorem dX6_layTriangles_109 : decode cX6_layTriangles 109 = .ok (.iastore, 1) := by decide +kernel
theorem dX6_layTriangles_110 : decode cX6_layTriangles 110 = .ok (.aload_n 0, 1) := by decide +kernel
theorem dX6_layTriangles_111 : decode cX6_layTriangles 111 = .ok (.getfield 47, 3) := by decide +kernel
theorem dX6_layTriangles_114 : decode cX6_layTriangles 114 = .ok (.aload_n 0, 1) := by decide +kernel
theorem dX6_layTriangles_115 : decode cX6_layTriangles 115 = .ok (.getfield 157, 3) := by decide +kernel
theorem dX6_layTriangles_118 : decode cX6_layTriangles 118 = .ok (.iload 5, 2) := by decide +kernel
theorem dX6_layTriangles_120 : decode cX6_layTriangles 120 = .ok (.iastore, 1) := by decide +kernel
theorem dX6_layTriangles_121 : decode cX6_layTriangles 121 = .ok (.aload_n 0, 1) := by decide +kernel
theorem dX6_layTriangles_122 : decode cX6_layTriangles 122 = .ok (.getfield 50, 3) := by decide +kernel
theorem dX6_layTriangles_125 : decode cX6_layTriangles 125 = .ok (.aload_n 0, 1) := by decide +kernel
theorem dX6_layTriangles_126 : decode cX6_layTriangles 126 = .ok (.getfield 157, 3) := by decide +kernel
theorem dX6_layTriangles_129 : decode cX6_layTriangles 129 = .ok (.iload 4, 2) := by decide +kernel
theorem dX6_layTriangles_131 : decode cX6_layTriangles 131 = .ok (.iastore, 1) := by decide +kernel
theorem dX6_layTriangles_132 : decode cX6_layTriangles 132 = .ok (.aload_n 0, 1) := by decide +kernel
theorem dX6_layTriangles_133 : decode cX6_layTriangles 133 = .ok (.dup, 1) := by decide +kernel
theorem dX6_layTriangles_134 : decode cX6_layTriangles 134 = .ok (.getfield 157, 3) := by decide +kernel
theorem dX6_layTriangles_137 : decode cX6_layTriangles 137 = .ok (.iconst 1, 1) := by decide +kernel
theorem dX6_layTriangles_138 : decode cX6_layTriangles 138 = .ok (.iadd, 1) := by decide +kernel
theorem dX6_layTriangles_139 : decode cX6_layTriangles 139 = .ok (.putfield 157, 3) := by decide +kernel
theorem dX6_layTriangles_142 : decode cX6_layTriangles 142 = .ok (.aload_n 0, 1) := by decide +kernel
theorem dX6_layTriangles_143 : decode cX6_layTriangles 143 = .ok (.getfield 53, 3) := by decide +kernel
theorem dX6_layTriangles_146 : decode cX6_layTriangles 146 = .ok (.iload_n 2, 1) := by decide +kernel
theorem dX6_layTriangles_147 : decode cX6_layTriangles 147 = .ok (.iload 5, 2) := by decide +kernel
theorem dX6_layTriangles_149 : decode cX6_layTriangles 149 = .ok (.iastore, 1) := by decide +kernel
theorem dX6_layTriangles_150 : decode cX6_layTriangles 150 = .ok (.aload_n 0, 1) := by decide +kernel
theorem dX6_layTriangles_151 : decode cX6_layTriangles 151 = .ok (.getfield 53, 3) := by decide +kernel
theorem dX6_layTriangles_154 : decode cX6_layTriangles 154 = .ok (.iload_n 2, 1) := by decide +kernel
theorem dX6_layTriangles_155 : decode cX6_layTriangles 155 = .ok (.iconst 1, 1) := by decide +kernel
theorem dX6_layTriangles_156 : decode cX6_layTriangles 156 = .ok (.iadd, 1) := by decide +kernel
theorem dX6_layTriangles_157 : decode cX6_layTriangles 157 = .ok (.iload 4, 2) := by decide +kernel
theorem dX6_layTriangles_159 : decode cX6_layTriangles 159 = .ok (.iastore, 1) := by decide +kernel
theorem dX6_layTriangles_160 : decode cX6_layTriangles 160 = .ok (.aload_n 0, 1) := by decide +kernel
theorem dX6_layTriangles_161 : decode cX6_layTriangles 161 = .ok (.getfield 53, 3) := by decide +kernel
theorem dX6_layTriangles_164 : decode cX6_layTriangles 164 = .ok (.iload_n 2, 1) := by decide +kernel
theorem dX6_layTriangles_165 : decode cX6_layTriangles 165 = .ok (.iconst 2, 1) := by decide +kernel
theorem dX6_layTriangles_166 : decode cX6_layTriangles 166 = .ok (.iadd, 1) := by decide +kernel
theorem dX6_layTriangles_167 : decode cX6_layTriangles 167 = .ok (.iload_n 3, 1) := by decide +kernel
theorem dX6_layTriangles_168 : decode cX6_layTriangles 168 = .ok (.iastore, 1) := by decide +kernel
theorem dX6_layTriangles_169 : decode cX6_layTriangles 169 = .ok (.aload_n 0, 1) := by decide +kernel
theorem dX6_layTriangles_170 : decode cX6_layTriangles 170 = .ok (.getfield 53, 3) := by decide +kernel
theorem dX6_layTriangles_173 : decode cX6_layTriangles 173 = .ok (.iload_n 2, 1) := by decide +kernel
theorem dX6_layTriangles_174 : decode cX6_layTriangles 174 = .ok (.iconst 3, 1) := by decide +kernel
theorem dX6_layTriangles_175 : decode cX6_layTriangles 175 = .ok (.iadd, 1) := by decide +kernel
theorem dX6_layTriangles_176 : decode cX6_layTriangles 176 = .ok (.iload 5, 2) := by decide +kernel
theorem dX6_layTriangles_178 : decode cX6_layTriangles 178 = .ok (.iastore, 1) := by decide +kernel
theorem dX6_layTriangles_179 : decode cX6_layTriangles 179 = .ok (.iinc 2 4, 3) := by decide +kernel
theorem dX6_layTriangles_182 : decode cX6_layTriangles 182 = .ok (.goto (-149), 3) := by decide +kernel
theorem dX6_layTriangles_185 : decode cX6_layTriangles 185 = .ok (.return_, 1) := by decide +kernel
theorem dX6_triangle_0 : decode cX6_triangle 0 = .ok (.aload_n 0, 1) := by decide +kernel
theorem dX6_triangle_1 : decode cX6_triangle 1 = .ok (.iload_n 1, 1) := by decide +kernel
theorem dX6_triangle_2 : decode cX6_triangle 2 = .ok (.invokevirtual 102, 3) := by decide +kernel
theorem dX6_triangle_5 : decode cX6_triangle 5 = .ok (.ifCond .ne 6, 3) := by decide +kernel
theorem dX6_triangle_8 : decode cX6_triangle 8 = .ok (.bipush (-2), 2) := by decide +kernel
theorem dX6_triangle_10 : decode cX6_triangle 10 = .ok (.ireturn, 1) := by decide +kernel
theorem dX6_triangle_11 : decode cX6_triangle 11 = .ok (.iload_n 3, 1) := by decide +kernel
theorem dX6_triangle_12 : decode cX6_triangle 12 = .ok (.iconst 0, 1) := by decide +kernel
theorem dX6_triangle_13 : decode cX6_triangle 13 = .ok (.iconst 2, 1) := by decide +kernel
theorem dX6_triangle_14 : decode cX6_triangle 14 = .ok (.invokestatic 69, 3) := by decide +kernel
theorem dX6_triangle_17 : decode cX6_triangle 17 = .ok (.ifCond .ne 6, 3) := by decide +kernel
theorem dX6_triangle_20 : decode cX6_triangle 20 = .ok (.bipush (-3), 2) := by decide +kernel
theorem dX6_triangle_22 : decode cX6_triangle 22 = .ok (.ireturn, 1) := by decide +kernel
theorem dX6_triangle_23 : decode cX6_triangle 23 = .ok (.aload_n 0, 1) := by decide +kernel
theorem dX6_triangle_24 : decode cX6_triangle 24 = .ok (.iload_n 1, 1) := by decide +kernel
theorem dX6_triangle_25 : decode cX6_triangle 25 = .ok (.invokevirtual 160, 3) := by decide +kernel
theorem dX6_triangle_28 : decode cX6_triangle 28 = .ok (.iload_n 2, 1) := by decide +kernel
theorem dX6_triangle_29 : decode cX6_triangle 29 = .ok (.iconst 0, 1) := by decide +kernel
theorem dX6_triangle_30 : decode cX6_triangle 30 = .ok (.aload_n 0, 1) := by decide +kernel
theorem dX6_triangle_31 : decode cX6_triangle 31 = .ok (.getfield 157, 3) := by decide +kernel
theorem dX6_triangle_34 : decode cX6_triangle 34 = .ok (.iconst 1, 1) := by decide +kernel
theorem dX6_triangle_35 : decode cX6_triangle 35 = .ok (.isub, 1) := by decide +kernel
theorem dX6_triangle_36 : decode cX6_triangle 36 = .ok (.invokestatic 69, 3) := by decide +kernel
theorem dX6_triangle_39 : decode cX6_triangle 39 = .ok (.ifCond .ne 5, 3) := by decide +kernel
theorem dX6_triangle_42 : decode cX6_triangle 42 = .ok (.iconst (-1), 1) := by decide +kernel
theorem dX6_triangle_43 : decode cX6_triangle 43 = .ok (.ireturn, 1) := by decide +kernel
theorem dX6_triangle_44 : decode cX6_triangle 44 = .ok (.iload_n 3, 1) := by decide +kernel
theorem dX6_triangle_45 : decode cX6_triangle 45 = .ok (.ifCond .ne 12, 3) := by decide +kernel
theorem dX6_triangle_48 : decode cX6_triangle 48 = .ok (.aload_n 0, 1) := by decide +kernel
theorem dX6_triangle_49 : decode cX6_triangle 49 = .ok (.getfield 44, 3) := by decide +kernel
theorem dX6_triangle_52 : decode cX6_triangle 52 = .ok (.iload_n 2, 1) := by decide +kernel
theorem dX6_triangle_53 : decode cX6_triangle 53 = .ok (.iaload, 1) := by decide +kernel
theorem dX6_triangle_54 : decode cX6_triangle 54 = .ok (.goto 23, 3) := by decide +kernel
theorem dX6_triangle_57 : decode cX6_triangle 57 = .ok (.iload_n 3, 1) := by decide +kernel
theorem dX6_triangle_58 : decode cX6_triangle 58 = .ok (.iconst 1, 1) := by decide +kernel
theorem dX6_triangle_59 : decode cX6_triangle 59 = .ok (.if_icmp .ne 12, 3) := by decide +kernel
theorem dX6_triangle_62 : decode cX6_triangle 62 = .ok (.aload_n 0, 1) := by decide +kernel
theorem dX6_triangle_63 : decode cX6_triangle 63 = .ok (.getfield 47, 3) := by decide +kernel
theorem dX6_triangle_66 : decode cX6_triangle 66 = .ok (.iload_n 2, 1) := by decide +kernel
theorem dX6_triangle_67 : decode cX6_triangle 67 = .ok (.iaload, 1) := by decide +kernel
theorem dX6_triangle_68 : decode cX6_triangle 68 = .ok (.goto 9, 3) := by decide +kernel
theorem dX6_triangle_71 : decode cX6_triangle 71 = .ok (.aload_n 0, 1) := by decide +kernel
theorem dX6_triangle_72 : decode cX6_triangle 72 = .ok (.getfield 50, 3) := by decide +kernel
theorem dX6_triangle_75 : decode cX6_triangle 75 = .ok (.iload_n 2, 1) := by decide +kernel
theorem dX6_triangle_76 : decode cX6_triangle 76 = .ok (.iaload, 1) := by decide +kernel
theorem dX6_triangle_77 : decode cX6_triangle 77 = .ok (.ireturn, 1) := by decide +kernel
theorem dX6_layDiagonals_0 : decode cX6_layDiagonals 0 = .ok (.aload_n 0, 1) := by decide +kernel
theorem dX6_layDiagonals_1 : decode cX6_layDiagonals 1 = .ok (.iload_n 1, 1) := by decide +kernel
theorem dX6_layDiagonals_2 : decode cX6_layDiagonals 2 = .ok (.invokevirtual 160, 3) := by decide +kernel
theorem dX6_layDiagonals_5 : decode cX6_layDiagonals 5 = .ok (.iconst 0, 1) := by decide +kernel
theorem dX6_layDiagonals_6 : decode cX6_layDiagonals 6 = .ok (.istore_n 2, 1) := by decide +kernel
theorem dX6_layDiagonals_7 : decode cX6_layDiagonals 7 = .ok (.iload_n 2, 1) := by decide +kernel
theorem dX6_layDiagonals_8 : decode cX6_layDiagonals 8 = .ok (.sipush 196, 3) := by decide +kernel
theorem dX6_layDiagonals_11 : decode cX6_layDiagonals 11 = .ok (.if_icmp .ge 16, 3) := by decide +kernel
theorem dX6_layDiagonals_14 : decode cX6_layDiagonals 14 = .ok (.aload_n 0, 1) := by decide +kernel
theorem dX6_layDiagonals_15 : decode cX6_layDiagonals 15 = .ok (.getfield 66, 3) := by decide +kernel
theorem dX6_layDiagonals_18 : decode cX6_layDiagonals 18 = .ok (.iload_n 2, 1) := by decide +kernel
theorem dX6_layDiagonals_19 : decode cX6_layDiagonals 19 = .ok (.iconst 0, 1) := by decide +kernel
theorem dX6_layDiagonals_20 : decode cX6_layDiagonals 20 = .ok (.bastore, 1) := by decide +kernel
theorem dX6_layDiagonals_21 : decode cX6_layDiagonals 21 = .ok (.iinc 2 1, 3) := by decide +kernel
theorem dX6_layDiagonals_24 : decode cX6_layDiagonals 24 = .ok (.goto (-17), 3) := by decide +kernel
theorem dX6_layDiagonals_27 : decode cX6_layDiagonals 27 = .ok (.iconst 0, 1) := by decide +kernel
theorem dX6_layDiagonals_28 : decode cX6_layDiagonals 28 = .ok (.istore_n 2, 1) := by decide +kernel
theorem dX6_layDiagonals_29 : decode cX6_layDiagonals 29 = .ok (.iload_n 2, 1) := by decide +kernel
theorem dX6_layDiagonals_30 : decode cX6_layDiagonals 30 = .ok (.aload_n 0, 1) := by decide +kernel
theorem dX6_layDiagonals_31 : decode cX6_layDiagonals 31 = .ok (.getfield 157, 3) := by decide +kernel
theorem dX6_layDiagonals_34 : decode cX6_layDiagonals 34 = .ok (.if_icmp .ge 84, 3) := by decide +kernel
theorem dX6_layDiagonals_37 : decode cX6_layDiagonals 37 = .ok (.aload_n 0, 1) := by decide +kernel
theorem dX6_layDiagonals_38 : decode cX6_layDiagonals 38 = .ok (.getfield 44, 3) := by decide +kernel
theorem dX6_layDiagonals_41 : decode cX6_layDiagonals 41 = .ok (.iload_n 2, 1) := by decide +kernel
theorem dX6_layDiagonals_42 : decode cX6_layDiagonals 42 = .ok (.iaload, 1) := by decide +kernel
theorem dX6_layDiagonals_43 : decode cX6_layDiagonals 43 = .ok (.istore_n 3, 1) := by decide +kernel
theorem dX6_layDiagonals_44 : decode cX6_layDiagonals 44 = .ok (.aload_n 0, 1) := by decide +kernel
theorem dX6_layDiagonals_45 : decode cX6_layDiagonals 45 = .ok (.getfield 47, 3) := by decide +kernel
theorem dX6_layDiagonals_48 : decode cX6_layDiagonals 48 = .ok (.iload_n 2, 1) := by decide +kernel
theorem dX6_layDiagonals_49 : decode cX6_layDiagonals 49 = .ok (.iaload, 1) := by decide +kernel
theorem dX6_layDiagonals_50 : decode cX6_layDiagonals 50 = .ok (.istore 4, 2) := by decide +kernel
theorem dX6_layDiagonals_52 : decode cX6_layDiagonals 52 = .ok (.aload_n 0, 1) := by decide +kernel
theorem dX6_layDiagonals_53 : decode cX6_layDiagonals 53 = .ok (.getfield 50, 3) := by decide +kernel
theorem dX6_layDiagonals_56 : decode cX6_layDiagonals 56 = .ok (.iload_n 2, 1) := by decide +kernel
theorem dX6_layDiagonals_57 : decode cX6_layDiagonals 57 = .ok (.iaload, 1) := by decide +kernel
theorem dX6_layDiagonals_58 : decode cX6_layDiagonals 58 = .ok (.istore 5, 2) := by decide +kernel
theorem dX6_layDiagonals_60 : decode cX6_layDiagonals 60 = .ok (.aload_n 0, 1) := by decide +kernel
theorem dX6_layDiagonals_61 : decode cX6_layDiagonals 61 = .ok (.getfield 66, 3) := by decide +kernel
theorem dX6_layDiagonals_64 : decode cX6_layDiagonals 64 = .ok (.bipush 14, 2) := by decide +kernel
theorem dX6_layDiagonals_66 : decode cX6_layDiagonals 66 = .ok (.iload_n 3, 1) := by decide +kernel
theorem dX6_layDiagonals_67 : decode cX6_layDiagonals 67 = .ok (.imul, 1) := by decide +kernel
theorem dX6_layDiagonals_68 : decode cX6_layDiagonals 68 = .ok (.iload 4, 2) := by decide +kernel
theorem dX6_layDiagonals_70 : decode cX6_layDiagonals 70 = .ok (.iadd, 1) := by decide +kernel
theorem dX6_layDiagonals_71 : decode cX6_layDiagonals 71 = .ok (.iload 4, 2) := by decide +kernel
theorem dX6_layDiagonals_73 : decode cX6_layDiagonals 73 = .ok (.iload_n 3, 1) := by decide +kernel
theorem dX6_layDiagonals_74 : decode cX6_layDiagonals 74 = .ok (.isub, 1) := by decide +kernel
theorem dX6_layDiagonals_75 : decode cX6_layDiagonals 75 = .ok (.iconst 1, 1) := by decide +kernel
theorem dX6_layDiagonals_76 : decode cX6_layDiagonals 76 = .ok (.if_icmp .le 7, 3) := by decide +kernel
theorem dX6_layDiagonals_79 : decode cX6_layDiagonals 79 = .ok (.iconst 1, 1) := by decide +kernel
theorem dX6_layDiagonals_80 : decode cX6_layDiagonals 80 = .ok (.goto 4, 3) := by decide +kernel
theorem dX6_layDiagonals_83 : decode cX6_layDiagonals 83 = .ok (.iconst 0, 1) := by decide +kernel
theorem dX6_layDiagonals_84 : decode cX6_layDiagonals 84 = .ok (.bastore, 1) := by decide +kernel
theorem dX6_layDiagonals_85 : decode cX6_layDiagonals 85 = .ok (.aload_n 0, 1) := by decide +kernel
theorem dX6_layDiagonals_86 : decode cX6_layDiagonals 86 = .ok (.getfield 66, 3) := by decide +kernel
theorem dX6_layDiagonals_89 : decode cX6_layDiagonals 89 = .ok (.bipush 14, 2) := by decide +kernel
theorem dX6_layDiagonals_91 : decode cX6_layDiagonals 91 = .ok (.iload 4, 2) := by decide +kernel
theorem dX6_layDiagonals_93 : decode cX6_layDiagonals 93 = .ok (.imul, 1) := by decide +kernel
theorem dX6_layDiagonals_94 : decode cX6_layDiagonals 94 = .ok (.iload 5, 2) := by decide +kernel
theorem dX6_layDiagonals_96 : decode cX6_layDiagonals 96 = .ok (.iadd, 1) := by decide +kernel
theorem dX6_layDiagonals_97 : decode cX6_layDiagonals 97 = .ok (.iload 5, 2) := by decide +kernel
theorem dX6_layDiagonals_99 : decode cX6_layDiagonals 99 = .ok (.iload 4, 2) := by decide +kernel
theorem dX6_layDiagonals_101 : decode cX6_layDiagonals 101 = .ok (.isub, 1) := by decide +kernel
theorem dX6_layDiagonals_102 : decode cX6_layDiagonals 102 = .ok (.iconst 1, 1) := by decide +kernel
theorem dX6_layDiagonals_103 : decode cX6_layDiagonals 103 = .ok (.if_icmp .le 7, 3) := by decide +kernel
theorem dX6_layDiagonals_106 : decode cX6_layDiagonals 106 = .ok (.iconst 1, 1) := by decide +kernel
theorem dX6_layDiagonals_107 : decode cX6_layDiagonals 107 = .ok (.goto 4, 3) := by decide +kernel
theorem dX6_layDiagonals_110 : decode cX6_layDiagonals 110 = .ok (.iconst 0, 1) := by decide +kernel
theorem dX6_layDiagonals_111 : decode cX6_layDiagonals 111 = .ok (.bastore, 1) := by decide +kernel
theorem dX6_layDiagonals_112 : decode cX6_layDiagonals 112 = .ok (.iinc 2 1, 3) := by decide +kernel
theorem dX6_layDiagonals_115 : decode cX6_layDiagonals 115 = .ok (.goto (-86), 3) := by decide +kernel
theorem dX6_layDiagonals_118 : decode cX6_layDiagonals 118 = .ok (.aload_n 0, 1) := by decide +kernel
theorem dX6_layDiagonals_119 : decode cX6_layDiagonals 119 = .ok (.iconst 0, 1) := by decide +kernel
theorem dX6_layDiagonals_120 : decode cX6_layDiagonals 120 = .ok (.putfield 163, 3) := by decide +kernel
theorem dX6_layDiagonals_123 : decode cX6_layDiagonals 123 = .ok (.iconst 0, 1) := by decide +kernel
theorem dX6_layDiagonals_124 : decode cX6_layDiagonals 124 = .ok (.istore_n 2, 1) := by decide +kernel
theorem dX6_layDiagonals_125 : decode cX6_layDiagonals 125 = .ok (.iload_n 2, 1) := by decide +kernel
theorem dX6_layDiagonals_126 : decode cX6_layDiagonals 126 = .ok (.aload_n 0, 1) := by decide +kernel
theorem dX6_layDiagonals_127 : decode cX6_layDiagonals 127 = .ok (.getfield 16, 3) := by decide +kernel
theorem dX6_layDiagonals_130 : decode cX6_layDiagonals 130 = .ok (.iload_n 1, 1) := by decide +kernel
theorem dX6_layDiagonals_131 : decode cX6_layDiagonals 131 = .ok (.iaload, 1) := by decide +kernel
theorem dX6_layDiagonals_132 : decode cX6_layDiagonals 132 = .ok (.if_icmp .ge 83, 3) := by decide +kernel
theorem dX6_layDiagonals_135 : decode cX6_layDiagonals 135 = .ok (.iload_n 2, 1) := by decide +kernel
theorem dX6_layDiagonals_136 : decode cX6_layDiagonals 136 = .ok (.iconst 1, 1) := by decide +kernel
theorem dX6_layDiagonals_137 : decode cX6_layDiagonals 137 = .ok (.iadd, 1) := by decide +kernel
theorem dX6_layDiagonals_138 : decode cX6_layDiagonals 138 = .ok (.istore_n 3, 1) := by decide +kernel
theorem dX6_layDiagonals_139 : decode cX6_layDiagonals 139 = .ok (.iload_n 3, 1) := by decide +kernel
theorem dX6_layDiagonals_140 : decode cX6_layDiagonals 140 = .ok (.aload_n 0, 1) := by decide +kernel
theorem dX6_layDiagonals_141 : decode cX6_layDiagonals 141 = .ok (.getfield 16, 3) := by decide +kernel
theorem dX6_layDiagonals_144 : decode cX6_layDiagonals 144 = .ok (.iload_n 1, 1) := by decide +kernel
theorem dX6_layDiagonals_145 : decode cX6_layDiagonals 145 = .ok (.iaload, 1) := by decide +kernel
theorem dX6_layDiagonals_146 : decode cX6_layDiagonals 146 = .ok (.if_icmp .ge 63, 3) := by decide +kernel
theorem dX6_layDiagonals_149 : decode cX6_layDiagonals 149 = .ok (.aload_n 0, 1) := by decide +kernel
theorem dX6_layDiagonals_150 : decode cX6_layDiagonals 150 = .ok (.getfield 66, 3) := by decide +kernel
theorem dX6_layDiagonals_153 : decode cX6_layDiagonals 153 = .ok (.bipush 14, 2) := by decide +kernel
theorem dX6_layDiagonals_155 : decode cX6_layDiagonals 155 = .ok (.iload_n 2, 1) := by decide +kernel
theorem dX6_layDiagonals_156 : decode cX6_layDiagonals 156 = .ok (.imul, 1) := by decide +kernel
theorem dX6_layDiagonals_157 : decode cX6_layDiagonals 157 = .ok (.iload_n 3, 1) := by decide +kernel
theorem dX6_layDiagonals_158 : decode cX6_layDiagonals 158 = .ok (.iadd, 1) := by decide +kernel
theorem dX6_layDiagonals_159 : decode cX6_layDiagonals 159 = .ok (.baload, 1) := by decide +kernel
theorem dX6_layDiagonals_160 : decode cX6_layDiagonals 160 = .ok (.ifCond .eq 43, 3) := by decide +kernel
theorem dX6_layDiagonals_163 : decode cX6_layDiagonals 163 = .ok (.aload_n 0, 1) := by decide +kernel
theorem dX6_layDiagonals_164 : decode cX6_layDiagonals 164 = .ok (.getfield 56, 3) := by decide +kernel
theorem dX6_layDiagonals_167 : decode cX6_layDiagonals 167 = .ok (.aload_n 0, 1) := by decide +kernel
theorem dX6_layDiagonals_168 : decode cX6_layDiagonals 168 = .ok (.getfield 163, 3) := by decide +kernel
theorem dX6_layDiagonals_171 : decode cX6_layDiagonals 171 = .ok (.iload_n 2, 1) := by decide +kernel
theorem dX6_layDiagonals_172 : decode cX6_layDiagonals 172 = .ok (.iastore, 1) := by decide +kernel
theorem dX6_layDiagonals_173 : decode cX6_layDiagonals 173 = .ok (.aload_n 0, 1) := by decide +kernel
theorem dX6_layDiagonals_174 : decode cX6_layDiagonals 174 = .ok (.getfield 59, 3) := by decide +kernel
theorem dX6_layDiagonals_177 : decode cX6_layDiagonals 177 = .ok (.aload_n 0, 1) := by decide +kernel
theorem dX6_layDiagonals_178 : decode cX6_layDiagonals 178 = .ok (.getfield 163, 3) := by decide +kernel
theorem dX6_layDiagonals_181 : decode cX6_layDiagonals 181 = .ok (.iload_n 3, 1) := by decide +kernel
theorem dX6_layDiagonals_182 : decode cX6_layDiagonals 182 = .ok (.iastore, 1) := by decide +kernel
theorem dX6_layDiagonals_183 : decode cX6_layDiagonals 183 = .ok (.aload_n 0, 1) := by decide +kernel
theorem dX6_layDiagonals_184 : decode cX6_layDiagonals 184 = .ok (.getfield 62, 3) := by decide +kernel
theorem dX6_layDiagonals_187 : decode cX6_layDiagonals 187 = .ok (.aload_n 0, 1) := by decide +kernel
theorem dX6_layDiagonals_188 : decode cX6_layDiagonals 188 = .ok (.getfield 163, 3) := by decide +kernel
theorem dX6_layDiagonals_191 : decode cX6_layDiagonals 191 = .ok (.iconst 1, 1) := by decide +kernel
theorem dX6_layDiagonals_192 : decode cX6_layDiagonals 192 = .ok (.bastore, 1) := by decide +kernel
theorem dX6_layDiagonals_193 : decode cX6_layDiagonals 193 = .ok (.aload_n 0, 1) := by decide +kernel
theorem dX6_layDiagonals_194 : decode cX6_layDiagonals 194 = .ok (.dup, 1) := by decide +kernel
theorem dX6_layDiagonals_195 : decode cX6_layDiagonals 195 = .ok (.getfield 163, 3) := by decide +kernel
theorem dX6_layDiagonals_198 : decode cX6_layDiagonals 198 = .ok (.iconst 1, 1) := by decide +kernel
theorem dX6_layDiagonals_199 : decode cX6_layDiagonals 199 = .ok (.iadd, 1) := by decide +kernel
theorem dX6_layDiagonals_200 : decode cX6_layDiagonals 200 = .ok (.putfield 163, 3) := by decide +kernel
theorem dX6_layDiagonals_203 : decode cX6_layDiagonals 203 = .ok (.iinc 3 1, 3) := by decide +kernel
theorem dX6_layDiagonals_206 : decode cX6_layDiagonals 206 = .ok (.goto (-67), 3) := by decide +kernel
theorem dX6_layDiagonals_209 : decode cX6_layDiagonals 209 = .ok (.iinc 2 1, 3) := by decide +kernel
theorem dX6_layDiagonals_212 : decode cX6_layDiagonals 212 = .ok (.goto (-87), 3) := by decide +kernel
theorem dX6_layDiagonals_215 : decode cX6_layDiagonals 215 = .ok (.iconst 0, 1) := by decide +kernel
theorem dX6_layDiagonals_216 : decode cX6_layDiagonals 216 = .ok (.istore_n 2, 1) := by decide +kernel
theorem dX6_layDiagonals_217 : decode cX6_layDiagonals 217 = .ok (.iload_n 2, 1) := by decide +kernel
theorem dX6_layDiagonals_218 : decode cX6_layDiagonals 218 = .ok (.aload_n 0, 1) := by decide +kernel
theorem dX6_layDiagonals_219 : decode cX6_layDiagonals 219 = .ok (.getfield 163, 3) := by decide +kernel
theorem dX6_layDiagonals_222 : decode cX6_layDiagonals 222 = .ok (.if_icmp .ge 62, 3) := by decide +kernel
theorem dX6_layDiagonals_225 : decode cX6_layDiagonals 225 = .ok (.aload_n 0, 1) := by decide +kernel
theorem dX6_layDiagonals_226 : decode cX6_layDiagonals 226 = .ok (.getfield 62, 3) := by decide +kernel
theorem dX6_layDiagonals_229 : decode cX6_layDiagonals 229 = .ok (.iload_n 2, 1) := by decide +kernel
theorem dX6_layDiagonals_230 : decode cX6_layDiagonals 230 = .ok (.aload_n 0, 1) := by decide +kernel
theorem dX6_layDiagonals_231 : decode cX6_layDiagonals 231 = .ok (.iload_n 1, 1) := by decide +kernel
theorem dX6_layDiagonals_232 : decode cX6_layDiagonals 232 = .ok (.iload_n 2, 1) := by decide +kernel
theorem dX6_layDiagonals_233 : decode cX6_layDiagonals 233 = .ok (.aload_n 0, 1) := by decide +kernel
theorem dX6_layDiagonals_234 : decode cX6_layDiagonals 234 = .ok (.getfield 56, 3) := by decide +kernel
theorem dX6_layDiagonals_237 : decode cX6_layDiagonals 237 = .ok (.iload_n 2, 1) := by decide +kernel
theorem dX6_layDiagonals_238 : decode cX6_layDiagonals 238 = .ok (.iaload, 1) := by decide +kernel
theorem dX6_layDiagonals_239 : decode cX6_layDiagonals 239 = .ok (.aload_n 0, 1) := by decide +kernel
theorem dX6_layDiagonals_240 : decode cX6_layDiagonals 240 = .ok (.getfield 59, 3) := by decide +kernel
theorem dX6_layDiagonals_243 : decode cX6_layDiagonals 243 = .ok (.iload_n 2, 1) := by decide +kernel
theorem dX6_layDiagonals_244 : decode cX6_layDiagonals 244 = .ok (.iaload, 1) := by decide +kernel
theorem dX6_layDiagonals_245 : decode cX6_layDiagonals 245 = .ok (.invokevirtual 166, 3) := by decide +kernel
theorem dX6_layDiagonals_248 : decode cX6_layDiagonals 248 = .ok (.ifCond .eq 24, 3) := by decide +kernel
theorem dX6_layDiagonals_251 : decode cX6_layDiagonals 251 = .ok (.aload_n 0, 1) := by decide +kernel
theorem dX6_layDiagonals_252 : decode cX6_layDiagonals 252 = .ok (.iload_n 1, 1) := by decide +kernel
theorem dX6_layDiagonals_253 : decode cX6_layDiagonals 253 = .ok (.iload_n 2, 1) := by decide +kernel
theorem dX6_layDiagonals_254 : decode cX6_layDiagonals 254 = .ok (.aload_n 0, 1) := by decide +kernel
theorem dX6_layDiagonals_255 : decode cX6_layDiagonals 255 = .ok (.getfield 59, 3) := by decide +kernel
theorem dX6_layDiagonals_258 : decode cX6_layDiagonals 258 = .ok (.iload_n 2, 1) := by decide +kernel
theorem dX6_layDiagonals_259 : decode cX6_layDiagonals 259 = .ok (.iaload, 1) := by decide +kernel
theorem dX6_layDiagonals_260 : decode cX6_layDiagonals 260 = .ok (.aload_n 0, 1) := by decide +kernel
theorem dX6_layDiagonals_261 : decode cX6_layDiagonals 261 = .ok (.getfield 56, 3) := by decide +kernel
theorem dX6_layDiagonals_264 : decode cX6_layDiagonals 264 = .ok (.iload_n 2, 1) := by decide +kernel
theorem dX6_layDiagonals_265 : decode cX6_layDiagonals 265 = .ok (.iaload, 1) := by decide +kernel
theorem dX6_layDiagonals_266 : decode cX6_layDiagonals 266 = .ok (.invokevirtual 166, 3) := by decide +kernel
theorem dX6_layDiagonals_269 : decode cX6_layDiagonals 269 = .ok (.ifCond .ne 7, 3) := by decide +kernel
theorem dX6_layDiagonals_272 : decode cX6_layDiagonals 272 = .ok (.iconst 1, 1) := by decide +kernel
theorem dX6_layDiagonals_273 : decode cX6_layDiagonals 273 = .ok (.goto 4, 3) := by decide +kernel
theorem dX6_layDiagonals_276 : decode cX6_layDiagonals 276 = .ok (.iconst 0, 1) := by decide +kernel
theorem dX6_layDiagonals_277 : decode cX6_layDiagonals 277 = .ok (.bastore, 1) := by decide +kernel
theorem dX6_layDiagonals_278 : decode cX6_layDiagonals 278 = .ok (.iinc 2 1, 3) := by decide +kernel
theorem dX6_layDiagonals_281 : decode cX6_layDiagonals 281 = .ok (.goto (-64), 3) := by decide +kernel
theorem dX6_layDiagonals_284 : decode cX6_layDiagonals 284 = .ok (.return_, 1) := by decide +kernel
theorem dX6_isFlat_0 : decode cX6_isFlat 0 = .ok (.aload_n 0, 1) := by decide +kernel
theorem dX6_isFlat_1 : decode cX6_isFlat 1 = .ok (.getfield 16, 3) := by decide +kernel
theorem dX6_isFlat_4 : decode cX6_isFlat 4 = .ok (.iload_n 1, 1) := by decide +kernel
theorem dX6_isFlat_5 : decode cX6_isFlat 5 = .ok (.iaload, 1) := by decide +kernel
theorem dX6_isFlat_6 : decode cX6_isFlat 6 = .ok (.istore 5, 2) := by decide +kernel
theorem dX6_isFlat_8 : decode cX6_isFlat 8 = .ok (.iload 4, 2) := by decide +kernel
theorem dX6_isFlat_10 : decode cX6_isFlat 10 = .ok (.iload_n 3, 1) := by decide +kernel
theorem dX6_isFlat_11 : decode cX6_isFlat 11 = .ok (.isub, 1) := by decide +kernel
theorem dX6_isFlat_12 : decode cX6_isFlat 12 = .ok (.iload 5, 2) := by decide +kernel
theorem dX6_isFlat_14 : decode cX6_isFlat 14 = .ok (.iadd, 1) := by decide +kernel
theorem dX6_isFlat_15 : decode cX6_isFlat 15 = .ok (.iload 5, 2) := by decide +kernel
theorem dX6_isFlat_17 : decode cX6_isFlat 17 = .ok (.irem, 1) := by decide +kernel
theorem dX6_isFlat_18 : decode cX6_isFlat 18 = .ok (.istore 6, 2) := by decide +kernel
theorem dX6_isFlat_20 : decode cX6_isFlat 20 = .ok (.iconst 1, 1) := by decide +kernel
theorem dX6_isFlat_21 : decode cX6_isFlat 21 = .ok (.istore 7, 2) := by decide +kernel
theorem dX6_isFlat_23 : decode cX6_isFlat 23 = .ok (.iload 5, 2) := by decide +kernel
theorem dX6_isFlat_25 : decode cX6_isFlat 25 = .ok (.iconst 1, 1) := by decide +kernel
theorem dX6_isFlat_26 : decode cX6_isFlat 26 = .ok (.isub, 1) := by decide +kernel
theorem dX6_isFlat_27 : decode cX6_isFlat 27 = .ok (.istore 8, 2) := by decide +kernel
theorem dX6_isFlat_29 : decode cX6_isFlat 29 = .ok (.iconst 0, 1) := by decide +kernel
theorem dX6_isFlat_30 : decode cX6_isFlat 30 = .ok (.istore 9, 2) := by decide +kernel
theorem dX6_isFlat_32 : decode cX6_isFlat 32 = .ok (.iload 9, 2) := by decide +kernel
theorem dX6_isFlat_34 : decode cX6_isFlat 34 = .ok (.aload_n 0, 1) := by decide +kernel
theorem dX6_isFlat_35 : decode cX6_isFlat 35 = .ok (.getfield 163, 3) := by decide +kernel
theorem dX6_isFlat_38 : decode cX6_isFlat 38 = .ok (.if_icmp .ge 134, 3) := by decide +kernel
theorem dX6_isFlat_41 : decode cX6_isFlat 41 = .ok (.aload_n 0, 1) := by decide +kernel
theorem dX6_isFlat_42 : decode cX6_isFlat 42 = .ok (.getfield 56, 3) := by decide +kernel
theorem dX6_isFlat_45 : decode cX6_isFlat 45 = .ok (.iload 9, 2) := by decide +kernel
theorem dX6_isFlat_47 : decode cX6_isFlat 47 = .ok (.iaload, 1) := by decide +kernel
theorem dX6_isFlat_48 : decode cX6_isFlat 48 = .ok (.iload_n 3, 1) := by decide +kernel
theorem dX6_isFlat_49 : decode cX6_isFlat 49 = .ok (.if_icmp .ne 13, 3) := by decide +kernel
theorem dX6_isFlat_52 : decode cX6_isFlat 52 = .ok (.aload_n 0, 1) := by decide +kernel
theorem dX6_isFlat_53 : decode cX6_isFlat 53 = .ok (.getfield 59, 3) := by decide +kernel
theorem dX6_isFlat_56 : decode cX6_isFlat 56 = .ok (.iload 9, 2) := by decide +kernel
theorem dX6_isFlat_58 : decode cX6_isFlat 58 = .ok (.iaload, 1) := by decide +kernel
theorem dX6_isFlat_59 : decode cX6_isFlat 59 = .ok (.goto 25, 3) := by decide +kernel
theorem dX6_isFlat_62 : decode cX6_isFlat 62 = .ok (.aload_n 0, 1) := by decide +kernel
theorem dX6_isFlat_63 : decode cX6_isFlat 63 = .ok (.getfield 59, 3) := by decide +kernel
theorem dX6_isFlat_66 : decode cX6_isFlat 66 = .ok (.iload 9, 2) := by decide +kernel
theorem dX6_isFlat_68 : decode cX6_isFlat 68 = .ok (.iaload, 1) := by decide +kernel
theorem dX6_isFlat_69 : decode cX6_isFlat 69 = .ok (.iload_n 3, 1) := by decide +kernel
theorem dX6_isFlat_70 : decode cX6_isFlat 70 = .ok (.if_icmp .ne 13, 3) := by decide +kernel
theorem dX6_isFlat_73 : decode cX6_isFlat 73 = .ok (.aload_n 0, 1) := by decide +kernel
theorem dX6_isFlat_74 : decode cX6_isFlat 74 = .ok (.getfield 56, 3) := by decide +kernel
theorem dX6_isFlat_77 : decode cX6_isFlat 77 = .ok (.iload 9, 2) := by decide +kernel
theorem dX6_isFlat_79 : decode cX6_isFlat 79 = .ok (.iaload, 1) := by decide +kernel
theorem dX6_isFlat_80 : decode cX6_isFlat 80 = .ok (.goto 4, 3) := by decide +kernel
theorem dX6_isFlat_83 : decode cX6_isFlat 83 = .ok (.iconst (-1), 1) := by decide +kernel
theorem dX6_isFlat_84 : decode cX6_isFlat 84 = .ok (.istore 10, 2) := by decide +kernel
theorem dX6_isFlat_86 : decode cX6_isFlat 86 = .ok (.iload 9, 2) := by decide +kernel
theorem dX6_isFlat_88 : decode cX6_isFlat 88 = .ok (.iload_n 2, 1) := by decide +kernel
theorem dX6_isFlat_89 : decode cX6_isFlat 89 = .ok (.if_icmp .eq 77, 3) := by decide +kernel
theorem dX6_isFlat_92 : decode cX6_isFlat 92 = .ok (.aload_n 0, 1) := by decide +kernel
theorem dX6_isFlat_93 : decode cX6_isFlat 93 = .ok (.getfield 62, 3) := by decide +kernel
theorem dX6_isFlat_96 : decode cX6_isFlat 96 = .ok (.iload 9, 2) := by decide +kernel
theorem dX6_isFlat_98 : decode cX6_isFlat 98 = .ok (.baload, 1) := by decide +kernel
theorem dX6_isFlat_99 : decode cX6_isFlat 99 = .ok (.ifCond .eq 67, 3) := by decide +kernel
theorem dX6_isFlat_102 : decode cX6_isFlat 102 = .ok (.iload 10, 2) := by decide +kernel
theorem dX6_isFlat_104 : decode cX6_isFlat 104 = .ok (.iconst (-1), 1) := by decide +kernel
theorem dX6_isFlat_105 : decode cX6_isFlat 105 = .ok (.if_icmp .eq 61, 3) := by decide +kernel
theorem dX6_isFlat_108 : decode cX6_isFlat 108 = .ok (.iload 10, 2) := by decide +kernel
theorem dX6_isFlat_110 : decode cX6_isFlat 110 = .ok (.iload_n 3, 1) := by decide +kernel
theorem dX6_isFlat_111 : decode cX6_isFlat 111 = .ok (.isub, 1) := by decide +kernel
theorem dX6_isFlat_112 : decode cX6_isFlat 112 = .ok (.iload 5, 2) := by decide +kernel
theorem dX6_isFlat_114 : decode cX6_isFlat 114 = .ok (.iadd, 1) := by decide +kernel
theorem dX6_isFlat_115 : decode cX6_isFlat 115 = .ok (.iload 5, 2) := by decide +kernel
theorem dX6_isFlat_117 : decode cX6_isFlat 117 = .ok (.irem, 1) := by decide +kernel
theorem dX6_isFlat_118 : decode cX6_isFlat 118 = .ok (.istore 11, 2) := by decide +kernel
theorem dX6_isFlat_120 : decode cX6_isFlat 120 = .ok (.iload 11, 2) := by decide +kernel
theorem dX6_isFlat_122 : decode cX6_isFlat 122 = .ok (.iload 6, 2) := by decide +kernel
theorem dX6_isFlat_124 : decode cX6_isFlat 124 = .ok (.if_icmp .ge 15, 3) := by decide +kernel
theorem dX6_isFlat_127 : decode cX6_isFlat 127 = .ok (.iload 11, 2) := by decide +kernel
theorem dX6_isFlat_129 : decode cX6_isFlat 129 = .ok (.iload 7, 2) := by decide +kernel
theorem dX6_isFlat_131 : decode cX6_isFlat 131 = .ok (.if_icmp .le 8, 3) := by decide +kernel
theorem dX6_isFlat_134 : decode cX6_isFlat 134 = .ok (.iload 11, 2) := by decide +kernel
theorem dX6_isFlat_136 : decode cX6_isFlat 136 = .ok (.goto 5, 3) := by decide +kernel
theorem dX6_isFlat_139 : decode cX6_isFlat 139 = .ok (.iload 7, 2) := by decide +kernel
theorem dX6_isFlat_141 : decode cX6_isFlat 141 = .ok (.istore 7, 2) := by decide +kernel
theorem dX6_isFlat_143 : decode cX6_isFlat 143 = .ok (.iload 11, 2) := by decide +kernel
theorem dX6_isFlat_145 : decode cX6_isFlat 145 = .ok (.iload 6, 2) := by decide +kernel
theorem dX6_isFlat_147 : decode cX6_isFlat 147 = .ok (.if_icmp .le 15, 3) := by decide +kernel
theorem dX6_isFlat_150 : decode cX6_isFlat 150 = .ok (.iload 11, 2) := by decide +kernel
theorem dX6_isFlat_152 : decode cX6_isFlat 152 = .ok (.iload 8, 2) := by decide +kernel
theorem dX6_isFlat_154 : decode cX6_isFlat 154 = .ok (.if_icmp .ge 8, 3) := by decide +kernel
theorem dX6_isFlat_157 : decode cX6_isFlat 157 = .ok (.iload 11, 2) := by decide +kernel
theorem dX6_isFlat_159 : decode cX6_isFlat 159 = .ok (.goto 5, 3) := by decide +kernel
theorem dX6_isFlat_162 : decode cX6_isFlat 162 = .ok (.iload 8, 2) := by decide +kernel
theorem dX6_isFlat_164 : decode cX6_isFlat 164 = .ok (.istore 8, 2) := by decide +kernel
theorem dX6_isFlat_166 : decode cX6_isFlat 166 = .ok (.iinc 9 1, 3) := by decide +kernel
theorem dX6_isFlat_169 : decode cX6_isFlat 169 = .ok (.goto (-137), 3) := by decide +kernel
theorem dX6_isFlat_172 : decode cX6_isFlat 172 = .ok (.iload_n 3, 1) := by decide +kernel
theorem dX6_isFlat_173 : decode cX6_isFlat 173 = .ok (.iload 7, 2) := by decide +kernel
theorem dX6_isFlat_175 : decode cX6_isFlat 175 = .ok (.iadd, 1) := by decide +kernel
theorem dX6_isFlat_176 : decode cX6_isFlat 176 = .ok (.iload 5, 2) := by decide +kernel
theorem dX6_isFlat_178 : decode cX6_isFlat 178 = .ok (.irem, 1) := by decide +kernel
theorem dX6_isFlat_179 : decode cX6_isFlat 179 = .ok (.istore 9, 2) := by decide +kernel
theorem dX6_isFlat_181 : decode cX6_isFlat 181 = .ok (.iload_n 3, 1) := by decide +kernel
theorem dX6_isFlat_182 : decode cX6_isFlat 182 = .ok (.iload 8, 2) := by decide +kernel
theorem dX6_isFlat_184 : decode cX6_isFlat 184 = .ok (.iadd, 1) := by decide +kernel
theorem dX6_isFlat_185 : decode cX6_isFlat 185 = .ok (.iload 5, 2) := by decide +kernel
theorem dX6_isFlat_187 : decode cX6_isFlat 187 = .ok (.irem, 1) := by decide +kernel
theorem dX6_isFlat_188 : decode cX6_isFlat 188 = .ok (.istore 10, 2) := by decide +kernel
theorem dX6_isFlat_190 : decode cX6_isFlat 190 = .ok (.aload_n 0, 1) := by decide +kernel
theorem dX6_isFlat_191 : decode cX6_isFlat 191 = .ok (.iload_n 1, 1) := by decide +kernel
theorem dX6_isFlat_192 : decode cX6_isFlat 192 = .ok (.iload_n 3, 1) := by decide +kernel
theorem dX6_isFlat_193 : decode cX6_isFlat 193 = .ok (.invokevirtual 110, 3) := by decide +kernel
theorem dX6_isFlat_196 : decode cX6_isFlat 196 = .ok (.aload_n 0, 1) := by decide +kernel
theorem dX6_isFlat_197 : decode cX6_isFlat 197 = .ok (.iload_n 1, 1) := by decide +kernel
theorem dX6_isFlat_198 : decode cX6_isFlat 198 = .ok (.iload_n 3, 1) := by decide +kernel
theorem dX6_isFlat_199 : decode cX6_isFlat 199 = .ok (.invokevirtual 114, 3) := by decide +kernel
theorem dX6_isFlat_202 : decode cX6_isFlat 202 = .ok (.aload_n 0, 1) := by decide +kernel
theorem dX6_isFlat_203 : decode cX6_isFlat 203 = .ok (.iload_n 1, 1) := by decide +kernel
theorem dX6_isFlat_204 : decode cX6_isFlat 204 = .ok (.iload 9, 2) := by decide +kernel
theorem dX6_isFlat_206 : decode cX6_isFlat 206 = .ok (.invokevirtual 110, 3) := by decide +kernel
theorem dX6_isFlat_209 : decode cX6_isFlat 209 = .ok (.aload_n 0, 1) := by decide +kernel
theorem dX6_isFlat_210 : decode cX6_isFlat 210 = .ok (.iload_n 1, 1) := by decide +kernel
theorem dX6_isFlat_211 : decode cX6_isFlat 211 = .ok (.iload 9, 2) := by decide +kernel
theorem dX6_isFlat_213 : decode cX6_isFlat 213 = .ok (.invokevirtual 114, 3) := by decide +kernel
theorem dX6_isFlat_216 : decode cX6_isFlat 216 = .ok (.aload_n 0, 1) := by decide +kernel
theorem dX6_isFlat_217 : decode cX6_isFlat 217 = .ok (.iload_n 1, 1) := by decide +kernel
theorem dX6_isFlat_218 : decode cX6_isFlat 218 = .ok (.iload 10, 2) := by decide +kernel
theorem dX6_isFlat_220 : decode cX6_isFlat 220 = .ok (.invokevirtual 110, 3) := by decide +kernel
theorem dX6_isFlat_223 : decode cX6_isFlat 223 = .ok (.aload_n 0, 1) := by decide +kernel
theorem dX6_isFlat_224 : decode cX6_isFlat 224 = .ok (.iload_n 1, 1) := by decide +kernel
theorem dX6_isFlat_225 : decode cX6_isFlat 225 = .ok (.iload 10, 2) := by decide +kernel
theorem dX6_isFlat_227 : decode cX6_isFlat 227 = .ok (.invokevirtual 114, 3) := by decide +kernel
theorem dX6_isFlat_230 : decode cX6_isFlat 230 = .ok (.invokestatic 76, 3) := by decide +kernel
theorem dX6_isFlat_233 : decode cX6_isFlat 233 = .ok (.istore 11, 2) := by decide +kernel
theorem dX6_isFlat_235 : decode cX6_isFlat 235 = .ok (.aload_n 0, 1) := by decide +kernel
theorem dX6_isFlat_236 : decode cX6_isFlat 236 = .ok (.iload_n 1, 1) := by decide +kernel
theorem dX6_isFlat_237 : decode cX6_isFlat 237 = .ok (.invokevirtual 117, 3) := by decide +kernel
theorem dX6_isFlat_240 : decode cX6_isFlat 240 = .ok (.ifCond .le 16, 3) := by decide +kernel
theorem dX6_isFlat_243 : decode cX6_isFlat 243 = .ok (.iload 11, 2) := by decide +kernel
theorem dX6_isFlat_245 : decode cX6_isFlat 245 = .ok (.ifCond .lt 7, 3) := by decide +kernel
theorem dX6_isFlat_248 : decode cX6_isFlat 248 = .ok (.iconst 1, 1) := by decide +kernel
theorem dX6_isFlat_249 : decode cX6_isFlat 249 = .ok (.goto 17, 3) := by decide +kernel
theorem dX6_isFlat_252 : decode cX6_isFlat 252 = .ok (.iconst 0, 1) := by decide +kernel
theorem dX6_isFlat_253 : decode cX6_isFlat 253 = .ok (.goto 13, 3) := by decide +kernel
theorem dX6_isFlat_256 : decode cX6_isFlat 256 = .ok (.iload 11, 2) := by decide +kernel
theorem dX6_isFlat_258 : decode cX6_isFlat 258 = .ok (.ifCond .gt 7, 3) := by decide +kernel
theorem dX6_isFlat_261 : decode cX6_isFlat 261 = .ok (.iconst 1, 1) := by decide +kernel
theorem dX6_isFlat_262 : decode cX6_isFlat 262 = .ok (.goto 4, 3) := by decide +kernel
theorem dX6_isFlat_265 : decode cX6_isFlat 265 = .ok (.iconst 0, 1) := by decide +kernel
theorem dX6_isFlat_266 : decode cX6_isFlat 266 = .ok (.ireturn, 1) := by decide +kernel
theorem dX6_diagonal_0 : decode cX6_diagonal 0 = .ok (.aload_n 0, 1) := by decide +kernel
theorem dX6_diagonal_1 : decode cX6_diagonal 1 = .ok (.iload_n 1, 1) := by decide +kernel
theorem dX6_diagonal_2 : decode cX6_diagonal 2 = .ok (.invokevirtual 102, 3) := by decide +kernel
theorem dX6_diagonal_5 : decode cX6_diagonal 5 = .ok (.ifCond .ne 6, 3) := by decide +kernel
theorem dX6_diagonal_8 : decode cX6_diagonal 8 = .ok (.bipush (-2), 2) := by decide +kernel
theorem dX6_diagonal_10 : decode cX6_diagonal 10 = .ok (.ireturn, 1) := by decide +kernel
theorem dX6_diagonal_11 : decode cX6_diagonal 11 = .ok (.iload_n 3, 1) := by decide +kernel
theorem dX6_diagonal_12 : decode cX6_diagonal 12 = .ok (.iconst 0, 1) := by decide +kernel
theorem dX6_diagonal_13 : decode cX6_diagonal 13 = .ok (.iconst 2, 1) := by decide +kernel
theorem dX6_diagonal_14 : decode cX6_diagonal 14 = .ok (.invokestatic 69, 3) := by decide +kernel
theorem dX6_diagonal_17 : decode cX6_diagonal 17 = .ok (.ifCond .ne 6, 3) := by decide +kernel
theorem dX6_diagonal_20 : decode cX6_diagonal 20 = .ok (.bipush (-3), 2) := by decide +kernel
theorem dX6_diagonal_22 : decode cX6_diagonal 22 = .ok (.ireturn, 1) := by decide +kernel
theorem dX6_diagonal_23 : decode cX6_diagonal 23 = .ok (.aload_n 0, 1) := by decide +kernel
theorem dX6_diagonal_24 : decode cX6_diagonal 24 = .ok (.iload_n 1, 1) := by decide +kernel
theorem dX6_diagonal_25 : decode cX6_diagonal 25 = .ok (.invokevirtual 170, 3) := by decide +kernel
theorem dX6_diagonal_28 : decode cX6_diagonal 28 = .ok (.iload_n 2, 1) := by decide +kernel
theorem dX6_diagonal_29 : decode cX6_diagonal 29 = .ok (.iconst 0, 1) := by decide +kernel
theorem dX6_diagonal_30 : decode cX6_diagonal 30 = .ok (.aload_n 0, 1) := by decide +kernel
theorem dX6_diagonal_31 : decode cX6_diagonal 31 = .ok (.getfield 163, 3) := by decide +kernel
theorem dX6_diagonal_34 : decode cX6_diagonal 34 = .ok (.iconst 1, 1) := by decide +kernel
theorem dX6_diagonal_35 : decode cX6_diagonal 35 = .ok (.isub, 1) := by decide +kernel
theorem dX6_diagonal_36 : decode cX6_diagonal 36 = .ok (.invokestatic 69, 3) := by decide +kernel
theorem dX6_diagonal_39 : decode cX6_diagonal 39 = .ok (.ifCond .ne 5, 3) := by decide +kernel
theorem dX6_diagonal_42 : decode cX6_diagonal 42 = .ok (.iconst (-1), 1) := by decide +kernel
theorem dX6_diagonal_43 : decode cX6_diagonal 43 = .ok (.ireturn, 1) := by decide +kernel
theorem dX6_diagonal_44 : decode cX6_diagonal 44 = .ok (.iload_n 3, 1) := by decide +kernel
theorem dX6_diagonal_45 : decode cX6_diagonal 45 = .ok (.ifCond .ne 12, 3) := by decide +kernel
theorem dX6_diagonal_48 : decode cX6_diagonal 48 = .ok (.aload_n 0, 1) := by decide +kernel
theorem dX6_diagonal_49 : decode cX6_diagonal 49 = .ok (.getfield 56, 3) := by decide +kernel
theorem dX6_diagonal_52 : decode cX6_diagonal 52 = .ok (.iload_n 2, 1) := by decide +kernel
theorem dX6_diagonal_53 : decode cX6_diagonal 53 = .ok (.iaload, 1) := by decide +kernel
theorem dX6_diagonal_54 : decode cX6_diagonal 54 = .ok (.goto 31, 3) := by decide +kernel
theorem dX6_diagonal_57 : decode cX6_diagonal 57 = .ok (.iload_n 3, 1) := by decide +kernel
theorem dX6_diagonal_58 : decode cX6_diagonal 58 = .ok (.iconst 1, 1) := by decide +kernel
theorem dX6_diagonal_59 : decode cX6_diagonal 59 = .ok (.if_icmp .ne 12, 3) := by decide +kernel
theorem dX6_diagonal_62 : decode cX6_diagonal 62 = .ok (.aload_n 0, 1) := by decide +kernel
theorem dX6_diagonal_63 : decode cX6_diagonal 63 = .ok (.getfield 59, 3) := by decide +kernel
theorem dX6_diagonal_66 : decode cX6_diagonal 66 = .ok (.iload_n 2, 1) := by decide +kernel
theorem dX6_diagonal_67 : decode cX6_diagonal 67 = .ok (.iaload, 1) := by decide +kernel
theorem dX6_diagonal_68 : decode cX6_diagonal 68 = .ok (.goto 17, 3) := by decide +kernel
theorem dX6_diagonal_71 : decode cX6_diagonal 71 = .ok (.aload_n 0, 1) := by decide +kernel
theorem dX6_diagonal_72 : decode cX6_diagonal 72 = .ok (.getfield 62, 3) := by decide +kernel
theorem dX6_diagonal_75 : decode cX6_diagonal 75 = .ok (.iload_n 2, 1) := by decide +kernel
theorem dX6_diagonal_76 : decode cX6_diagonal 76 = .ok (.baload, 1) := by decide +kernel
theorem dX6_diagonal_77 : decode cX6_diagonal 77 = .ok (.ifCond .eq 7, 3) := by decide +kernel
theorem dX6_diagonal_80 : decode cX6_diagonal 80 = .ok (.iconst 1, 1) := by decide +kernel
theorem dX6_diagonal_81 : decode cX6_diagonal 81 = .ok (.goto 4, 3) := by decide +kernel
theorem dX6_diagonal_84 : decode cX6_diagonal 84 = .ok (.iconst 0, 1) := by decide +kernel
theorem dX6_diagonal_85 : decode cX6_diagonal 85 = .ok (.ireturn, 1) := by decide +kernel
theorem dX6_parts_0 : decode cX6_parts 0 = .ok (.aload_n 0, 1) := by decide +kernel
theorem dX6_parts_1 : decode cX6_parts 1 = .ok (.iload_n 1, 1) := by decide +kernel
theorem dX6_parts_2 : decode cX6_parts 2 = .ok (.invokevirtual 102, 3) := by decide +kernel
theorem dX6_parts_5 : decode cX6_parts 5 = .ok (.ifCond .ne 6, 3) := by decide +kernel
theorem dX6_parts_8 : decode cX6_parts 8 = .ok (.bipush (-2), 2) := by decide +kernel
theorem dX6_parts_10 : decode cX6_parts 10 = .ok (.ireturn, 1) := by decide +kernel
theorem dX6_parts_11 : decode cX6_parts 11 = .ok (.aload_n 0, 1) := by decide +kernel
theorem dX6_parts_12 : decode cX6_parts 12 = .ok (.iload_n 1, 1) := by decide +kernel
theorem dX6_parts_13 : decode cX6_parts 13 = .ok (.invokevirtual 170, 3) := by decide +kernel
theorem dX6_parts_16 : decode cX6_parts 16 = .ok (.iconst 1, 1) := by decide +kernel
theorem dX6_parts_17 : decode cX6_parts 17 = .ok (.istore_n 2, 1) := by decide +kernel
theorem dX6_parts_18 : decode cX6_parts 18 = .ok (.iconst 0, 1) := by decide +kernel
theorem dX6_parts_19 : decode cX6_parts 19 = .ok (.istore_n 3, 1) := by decide +kernel
theorem dX6_parts_20 : decode cX6_parts 20 = .ok (.iload_n 3, 1) := by decide +kernel
theorem dX6_parts_21 : decode cX6_parts 21 = .ok (.aload_n 0, 1) := by decide +kernel
theorem dX6_parts_22 : decode cX6_parts 22 = .ok (.getfield 163, 3) := by decide +kernel
theorem dX6_parts_25 : decode cX6_parts 25 = .ok (.if_icmp .ge 26, 3) := by decide +kernel
theorem dX6_parts_28 : decode cX6_parts 28 = .ok (.iload_n 2, 1) := by decide +kernel
theorem dX6_parts_29 : decode cX6_parts 29 = .ok (.aload_n 0, 1) := by decide +kernel
theorem dX6_parts_30 : decode cX6_parts 30 = .ok (.getfield 62, 3) := by decide +kernel
theorem dX6_parts_33 : decode cX6_parts 33 = .ok (.iload_n 3, 1) := by decide +kernel
theorem dX6_parts_34 : decode cX6_parts 34 = .ok (.baload, 1) := by decide +kernel
theorem dX6_parts_35 : decode cX6_parts 35 = .ok (.ifCond .eq 7, 3) := by decide +kernel
theorem dX6_parts_38 : decode cX6_parts 38 = .ok (.iconst 1, 1) := by decide +kernel
theorem dX6_parts_39 : decode cX6_parts 39 = .ok (.goto 4, 3) := by decide +kernel
theorem dX6_parts_42 : decode cX6_parts 42 = .ok (.iconst 0, 1) := by decide +kernel
theorem dX6_parts_43 : decode cX6_parts 43 = .ok (.iadd, 1) := by decide +kernel
theorem dX6_parts_44 : decode cX6_parts 44 = .ok (.istore_n 2, 1) := by decide +kernel
theorem dX6_parts_45 : decode cX6_parts 45 = .ok (.iinc 3 1, 3) := by decide +kernel
theorem dX6_parts_48 : decode cX6_parts 48 = .ok (.goto (-28), 3) := by decide +kernel
theorem dX6_parts_51 : decode cX6_parts 51 = .ok (.iload_n 2, 1) := by decide +kernel
theorem dX6_parts_52 : decode cX6_parts 52 = .ok (.ireturn, 1) := by decide +kernel
theorem dX6_go_0 : decode cX6_go 0 = .ok (.aload_n 0, 1) := by decide +kernel
theorem dX6_go_1 : decode cX6_go 1 = .ok (.getfield 16, 3) := by decide +kernel
theorem dX6_go_4 : decode cX6_go 4 = .ok (.iload_n 1, 1) := by decide +kernel
theorem dX6_go_5 : decode cX6_go 5 = .ok (.iaload, 1) := by decide +kernel
theorem dX6_go_6 : decode cX6_go 6 = .ok (.istore 5, 2) := by decide +kernel
theorem dX6_go_8 : decode cX6_go 8 = .ok (.iload 4, 2) := by decide +kernel
theorem dX6_go_10 : decode cX6_go 10 = .ok (.ifCond .eq 12, 3) := by decide +kernel
theorem dX6_go_13 : decode cX6_go 13 = .ok (.iload_n 2, 1) := by decide +kernel
theorem dX6_go_14 : decode cX6_go 14 = .ok (.iload_n 3, 1) := by decide +kernel
theorem dX6_go_15 : decode cX6_go 15 = .ok (.iadd, 1) := by decide +kernel
theorem dX6_go_16 : decode cX6_go 16 = .ok (.iload 5, 2) := by decide +kernel
theorem dX6_go_18 : decode cX6_go 18 = .ok (.irem, 1) := by decide +kernel
theorem dX6_go_19 : decode cX6_go 19 = .ok (.goto 14, 3) := by decide +kernel
theorem dX6_go_22 : decode cX6_go 22 = .ok (.iload_n 2, 1) := by decide +kernel
theorem dX6_go_23 : decode cX6_go 23 = .ok (.iload_n 3, 1) := by decide +kernel
theorem dX6_go_24 : decode cX6_go 24 = .ok (.isub, 1) := by decide +kernel
theorem dX6_go_25 : decode cX6_go 25 = .ok (.iconst 2, 1) := by decide +kernel
theorem dX6_go_26 : decode cX6_go 26 = .ok (.iload 5, 2) := by decide +kernel
theorem dX6_go_28 : decode cX6_go 28 = .ok (.imul, 1) := by decide +kernel
theorem dX6_go_29 : decode cX6_go 29 = .ok (.iadd, 1) := by decide +kernel
theorem dX6_go_30 : decode cX6_go 30 = .ok (.iload 5, 2) := by decide +kernel
theorem dX6_go_32 : decode cX6_go 32 = .ok (.irem, 1) := by decide +kernel
theorem dX6_go_33 : decode cX6_go 33 = .ok (.ireturn, 1) := by decide +kernel
theorem dX6_fits_0 : decode cX6_fits 0 = .ok (.aload_n 0, 1) := by decide +kernel
theorem dX6_fits_1 : decode cX6_fits 1 = .ok (.getfield 16, 3) := by decide +kernel
theorem dX6_fits_4 : decode cX6_fits 4 = .ok (.iload_n 1, 1) := by decide +kernel
theorem dX6_fits_5 : decode cX6_fits 5 = .ok (.iaload, 1) := by decide +kernel
theorem dX6_fits_6 : decode cX6_fits 6 = .ok (.istore 6, 2) := by decide +kernel
theorem dX6_fits_8 : decode cX6_fits 8 = .ok (.iconst 0, 1) := by decide +kernel
theorem dX6_fits_9 : decode cX6_fits 9 = .ok (.istore 7, 2) := by decide +kernel
theorem dX6_fits_11 : decode cX6_fits 11 = .ok (.iload 7, 2) := by decide +kernel
theorem dX6_fits_13 : decode cX6_fits 13 = .ok (.iload 6, 2) := by decide +kernel
theorem dX6_fits_15 : decode cX6_fits 15 = .ok (.if_icmp .ge 230, 3) := by decide +kernel
theorem dX6_fits_18 : decode cX6_fits 18 = .ok (.aload_n 0, 1) := by decide +kernel
theorem dX6_fits_19 : decode cX6_fits 19 = .ok (.iload_n 2, 1) := by decide +kernel
theorem dX6_fits_20 : decode cX6_fits 20 = .ok (.iload_n 3, 1) := by decide +kernel
theorem dX6_fits_21 : decode cX6_fits 21 = .ok (.iload 7, 2) := by decide +kernel
theorem dX6_fits_23 : decode cX6_fits 23 = .ok (.iload 4, 2) := by decide +kernel
theorem dX6_fits_25 : decode cX6_fits 25 = .ok (.invokevirtual 173, 3) := by decide +kernel
theorem dX6_fits_28 : decode cX6_fits 28 = .ok (.istore 8, 2) := by decide +kernel
theorem dX6_fits_30 : decode cX6_fits 30 = .ok (.aload_n 0, 1) := by decide +kernel
theorem dX6_fits_31 : decode cX6_fits 31 = .ok (.iload_n 2, 1) := by decide +kernel
theorem dX6_fits_32 : decode cX6_fits 32 = .ok (.iload_n 3, 1) := by decide +kernel
theorem dX6_fits_33 : decode cX6_fits 33 = .ok (.iload 7, 2) := by decide +kernel
theorem dX6_fits_35 : decode cX6_fits 35 = .ok (.iconst 1, 1) := by decide +kernel
theorem dX6_fits_36 : decode cX6_fits 36 = .ok (.iadd, 1) := by decide +kernel
theorem dX6_fits_37 : decode cX6_fits 37 = .ok (.iload 4, 2) := by decide +kernel
theorem dX6_fits_39 : decode cX6_fits 39 = .ok (.invokevirtual 173, 3) := by decide +kernel
theorem dX6_fits_42 : decode cX6_fits 42 = .ok (.istore 9, 2) := by decide +kernel
theorem dX6_fits_44 : decode cX6_fits 44 = .ok (.aload_n 0, 1) := by decide +kernel
theorem dX6_fits_45 : decode cX6_fits 45 = .ok (.iload_n 2, 1) := by decide +kernel
theorem dX6_fits_46 : decode cX6_fits 46 = .ok (.iload_n 3, 1) := by decide +kernel
theorem dX6_fits_47 : decode cX6_fits 47 = .ok (.iload 7, 2) := by decide +kernel
theorem dX6_fits_49 : decode cX6_fits 49 = .ok (.iconst 2, 1) := by decide +kernel
theorem dX6_fits_50 : decode cX6_fits 50 = .ok (.iadd, 1) := by decide +kernel
theorem dX6_fits_51 : decode cX6_fits 51 = .ok (.iload 4, 2) := by decide +kernel
theorem dX6_fits_53 : decode cX6_fits 53 = .ok (.invokevirtual 173, 3) := by decide +kernel
theorem dX6_fits_56 : decode cX6_fits 56 = .ok (.istore 10, 2) := by decide +kernel
theorem dX6_fits_58 : decode cX6_fits 58 = .ok (.aload_n 0, 1) := by decide +kernel
theorem dX6_fits_59 : decode cX6_fits 59 = .ok (.iload_n 2, 1) := by decide +kernel
theorem dX6_fits_60 : decode cX6_fits 60 = .ok (.iload 8, 2) := by decide +kernel
theorem dX6_fits_62 : decode cX6_fits 62 = .ok (.invokevirtual 110, 3) := by decide +kernel
theorem dX6_fits_65 : decode cX6_fits 65 = .ok (.aload_n 0, 1) := by decide +kernel
theorem dX6_fits_66 : decode cX6_fits 66 = .ok (.iload_n 2, 1) := by decide +kernel
theorem dX6_fits_67 : decode cX6_fits 67 = .ok (.iload 8, 2) := by decide +kernel
theorem dX6_fits_69 : decode cX6_fits 69 = .ok (.invokevirtual 114, 3) := by decide +kernel
theorem dX6_fits_72 : decode cX6_fits 72 = .ok (.aload_n 0, 1) := by decide +kernel
theorem dX6_fits_73 : decode cX6_fits 73 = .ok (.iload_n 2, 1) := by decide +kernel
theorem dX6_fits_74 : decode cX6_fits 74 = .ok (.iload 9, 2) := by decide +kernel
theorem dX6_fits_76 : decode cX6_fits 76 = .ok (.invokevirtual 110, 3) := by decide +kernel
theorem dX6_fits_79 : decode cX6_fits 79 = .ok (.aload_n 0, 1) := by decide +kernel
theorem dX6_fits_80 : decode cX6_fits 80 = .ok (.iload_n 2, 1) := by decide +kernel
theorem dX6_fits_81 : decode cX6_fits 81 = .ok (.iload 9, 2) := by decide +kernel
theorem dX6_fits_83 : decode cX6_fits 83 = .ok (.invokevirtual 114, 3) := by decide +kernel
theorem dX6_fits_86 : decode cX6_fits 86 = .ok (.aload_n 0, 1) := by decide +kernel
theorem dX6_fits_87 : decode cX6_fits 87 = .ok (.iload_n 2, 1) := by decide +kernel
theorem dX6_fits_88 : decode cX6_fits 88 = .ok (.iload 10, 2) := by decide +kernel
theorem dX6_fits_90 : decode cX6_fits 90 = .ok (.invokevirtual 110, 3) := by decide +kernel
theorem dX6_fits_93 : decode cX6_fits 93 = .ok (.aload_n 0, 1) := by decide +kernel
theorem dX6_fits_94 : decode cX6_fits 94 = .ok (.iload_n 2, 1) := by decide +kernel
theorem dX6_fits_95 : decode cX6_fits 95 = .ok (.iload 10, 2) := by decide +kernel
theorem dX6_fits_97 : decode cX6_fits 97 = .ok (.invokevirtual 114, 3) := by decide +kernel
theorem dX6_fits_100 : decode cX6_fits 100 = .ok (.invokestatic 76, 3) := by decide +kernel
theorem dX6_fits_103 : decode cX6_fits 103 = .ok (.istore 11, 2) := by decide +kernel
theorem dX6_fits_105 : decode cX6_fits 105 = .ok (.aload_n 0, 1) := by decide +kernel
theorem dX6_fits_106 : decode cX6_fits 106 = .ok (.iload_n 1, 1) := by decide +kernel
theorem dX6_fits_107 : decode cX6_fits 107 = .ok (.iload 7, 2) := by decide +kernel
theorem dX6_fits_109 : decode cX6_fits 109 = .ok (.invokevirtual 110, 3) := by decide +kernel
theorem dX6_fits_112 : decode cX6_fits 112 = .ok (.aload_n 0, 1) := by decide +kernel
theorem dX6_fits_113 : decode cX6_fits 113 = .ok (.iload_n 1, 1) := by decide +kernel
theorem dX6_fits_114 : decode cX6_fits 114 = .ok (.iload 7, 2) := by decide +kernel
theorem dX6_fits_116 : decode cX6_fits 116 = .ok (.invokevirtual 114, 3) := by decide +kernel
theorem dX6_fits_119 : decode cX6_fits 119 = .ok (.aload_n 0, 1) := by decide +kernel
theorem dX6_fits_120 : decode cX6_fits 120 = .ok (.iload_n 1, 1) := by decide +kernel
theorem dX6_fits_121 : decode cX6_fits 121 = .ok (.iload 7, 2) := by decide +kernel
theorem dX6_fits_123 : decode cX6_fits 123 = .ok (.iconst 1, 1) := by decide +kernel
theorem dX6_fits_124 : decode cX6_fits 124 = .ok (.iadd, 1) := by decide +kernel
theorem dX6_fits_125 : decode cX6_fits 125 = .ok (.invokevirtual 110, 3) := by decide +kernel
theorem dX6_fits_128 : decode cX6_fits 128 = .ok (.aload_n 0, 1) := by decide +kernel
theorem dX6_fits_129 : decode cX6_fits 129 = .ok (.iload_n 1, 1) := by decide +kernel
theorem dX6_fits_130 : decode cX6_fits 130 = .ok (.iload 7, 2) := by decide +kernel
theorem dX6_fits_132 : decode cX6_fits 132 = .ok (.iconst 1, 1) := by decide +kernel
theorem dX6_fits_133 : decode cX6_fits 133 = .ok (.iadd, 1) := by decide +kernel
theorem dX6_fits_134 : decode cX6_fits 134 = .ok (.invokevirtual 114, 3) := by decide +kernel
theorem dX6_fits_137 : decode cX6_fits 137 = .ok (.aload_n 0, 1) := by decide +kernel
theorem dX6_fits_138 : decode cX6_fits 138 = .ok (.iload_n 1, 1) := by decide +kernel
theorem dX6_fits_139 : decode cX6_fits 139 = .ok (.iload 7, 2) := by decide +kernel
theorem dX6_fits_141 : decode cX6_fits 141 = .ok (.iconst 2, 1) := by decide +kernel
theorem dX6_fits_142 : decode cX6_fits 142 = .ok (.iadd, 1) := by decide +kernel
theorem dX6_fits_143 : decode cX6_fits 143 = .ok (.invokevirtual 110, 3) := by decide +kernel
theorem dX6_fits_146 : decode cX6_fits 146 = .ok (.aload_n 0, 1) := by decide +kernel
theorem dX6_fits_147 : decode cX6_fits 147 = .ok (.iload_n 1, 1) := by decide +kernel
theorem dX6_fits_148 : decode cX6_fits 148 = .ok (.iload 7, 2) := by decide +kernel
theorem dX6_fits_150 : decode cX6_fits 150 = .ok (.iconst 2, 1) := by decide +kernel
theorem dX6_fits_151 : decode cX6_fits 151 = .ok (.iadd, 1) := by decide +kernel
theorem dX6_fits_152 : decode cX6_fits 152 = .ok (.invokevirtual 114, 3) := by decide +kernel
theorem dX6_fits_155 : decode cX6_fits 155 = .ok (.invokestatic 76, 3) := by decide +kernel
theorem dX6_fits_158 : decode cX6_fits 158 = .ok (.istore 12, 2) := by decide +kernel
theorem dX6_fits_160 : decode cX6_fits 160 = .ok (.aload_n 0, 1) := by decide +kernel
theorem dX6_fits_161 : decode cX6_fits 161 = .ok (.iload_n 2, 1) := by decide +kernel
theorem dX6_fits_162 : decode cX6_fits 162 = .ok (.iload 8, 2) := by decide +kernel
theorem dX6_fits_164 : decode cX6_fits 164 = .ok (.iload 9, 2) := by decide +kernel
theorem dX6_fits_166 : decode cX6_fits 166 = .ok (.invokevirtual 144, 3) := by decide +kernel
theorem dX6_fits_169 : decode cX6_fits 169 = .ok (.aload_n 0, 1) := by decide +kernel
theorem dX6_fits_170 : decode cX6_fits 170 = .ok (.iload_n 1, 1) := by decide +kernel
theorem dX6_fits_171 : decode cX6_fits 171 = .ok (.iload 7, 2) := by decide +kernel
theorem dX6_fits_173 : decode cX6_fits 173 = .ok (.iload 7, 2) := by decide +kernel
theorem dX6_fits_175 : decode cX6_fits 175 = .ok (.iconst 1, 1) := by decide +kernel
theorem dX6_fits_176 : decode cX6_fits 176 = .ok (.iadd, 1) := by decide +kernel
theorem dX6_fits_177 : decode cX6_fits 177 = .ok (.invokevirtual 144, 3) := by decide +kernel
theorem dX6_fits_180 : decode cX6_fits 180 = .ok (.if_icmp .ne 30, 3) := by decide +kernel
theorem dX6_fits_183 : decode cX6_fits 183 = .ok (.aload_n 0, 1) := by decide +kernel
theorem dX6_fits_184 : decode cX6_fits 184 = .ok (.iload_n 2, 1) := by decide +kernel
theorem dX6_fits_185 : decode cX6_fits 185 = .ok (.iload 8, 2) := by decide +kernel
theorem dX6_fits_187 : decode cX6_fits 187 = .ok (.iload 10, 2) := by decide +kernel
theorem dX6_fits_189 : decode cX6_fits 189 = .ok (.invokevirtual 144, 3) := by decide +kernel
theorem dX6_fits_192 : decode cX6_fits 192 = .ok (.aload_n 0, 1) := by decide +kernel
theorem dX6_fits_193 : decode cX6_fits 193 = .ok (.iload_n 1, 1) := by decide +kernel
theorem dX6_fits_194 : decode cX6_fits 194 = .ok (.iload 7, 2) := by decide +kernel
theorem dX6_fits_196 : decode cX6_fits 196 = .ok (.iload 7, 2) := by decide +kernel
theorem dX6_fits_198 : decode cX6_fits 198 = .ok (.iconst 2, 1) := by decide +kernel
theorem dX6_fits_199 : decode cX6_fits 199 = .ok (.iadd, 1) := by decide +kernel
theorem dX6_fits_200 : decode cX6_fits 200 = .ok (.invokevirtual 144, 3) := by decide +kernel
theorem dX6_fits_203 : decode cX6_fits 203 = .ok (.if_icmp .ne 7, 3) := by decide +kernel
theorem dX6_fits_206 : decode cX6_fits 206 = .ok (.iconst 1, 1) := by decide +kernel
theorem dX6_fits_207 : decode cX6_fits 207 = .ok (.goto 4, 3) := by decide +kernel
theorem dX6_fits_210 : decode cX6_fits 210 = .ok (.iconst 0, 1) := by decide +kernel
theorem dX6_fits_211 : decode cX6_fits 211 = .ok (.istore 13, 2) := by decide +kernel
theorem dX6_fits_213 : decode cX6_fits 213 = .ok (.iload 13, 2) := by decide +kernel
theorem dX6_fits_215 : decode cX6_fits 215 = .ok (.ifCond .eq 22, 3) := by decide +kernel
theorem dX6_fits_218 : decode cX6_fits 218 = .ok (.iload 11, 2) := by decide +kernel
theorem dX6_fits_220 : decode cX6_fits 220 = .ok (.iload 5, 2) := by decide +kernel
theorem dX6_fits_222 : decode cX6_fits 222 = .ok (.ifCond .eq 10, 3) := by decide +kernel
theorem dX6_fits_225 : decode cX6_fits 225 = .ok (.iconst 0, 1) := by decide +kernel
theorem dX6_fits_226 : decode cX6_fits 226 = .ok (.iload 12, 2) := by decide +kernel
theorem dX6_fits_228 : decode cX6_fits 228 = .ok (.isub, 1) := by decide +kernel
theorem dX6_fits_229 : decode cX6_fits 229 = .ok (.goto 5, 3) := by decide +kernel
theorem dX6_fits_232 : decode cX6_fits 232 = .ok (.iload 12, 2) := by decide +kernel
theorem dX6_fits_234 : decode cX6_fits 234 = .ok (.if_icmp .eq 5, 3) := by decide +kernel
theorem dX6_fits_237 : decode cX6_fits 237 = .ok (.iconst 0, 1) := by decide +kernel
theorem dX6_fits_238 : decode cX6_fits 238 = .ok (.ireturn, 1) := by decide +kernel
theorem dX6_fits_239 : decode cX6_fits 239 = .ok (.iinc 7 1, 3) := by decide +kernel
theorem dX6_fits_242 : decode cX6_fits 242 = .ok (.goto (-231), 3) := by decide +kernel
theorem dX6_fits_245 : decode cX6_fits 245 = .ok (.iconst 1, 1) := by decide +kernel
theorem dX6_fits_246 : decode cX6_fits 246 = .ok (.ireturn, 1) := by decide +kernel
theorem dX6_fitting_0 : decode cX6_fitting 0 = .ok (.aload_n 0, 1) := by decide +kernel
theorem dX6_fitting_1 : decode cX6_fitting 1 = .ok (.iconst (-1), 1) := by decide +kernel
theorem dX6_fitting_2 : decode cX6_fitting 2 = .ok (.putfield 177, 3) := by decide +kernel
theorem dX6_fitting_5 : decode cX6_fitting 5 = .ok (.aload_n 0, 1) := by decide +kernel
theorem dX6_fitting_6 : decode cX6_fitting 6 = .ok (.getfield 16, 3) := by decide +kernel
theorem dX6_fitting_9 : decode cX6_fitting 9 = .ok (.iload_n 1, 1) := by decide +kernel
theorem dX6_fitting_10 : decode cX6_fitting 10 = .ok (.iaload, 1) := by decide +kernel
theorem dX6_fitting_11 : decode cX6_fitting 11 = .ok (.aload_n 0, 1) := by decide +kernel
theorem dX6_fitting_12 : decode cX6_fitting 12 = .ok (.getfield 16, 3) := by decide +kernel
theorem dX6_fitting_15 : decode cX6_fitting 15 = .ok (.iload_n 2, 1) := by decide +kernel
theorem dX6_fitting_16 : decode cX6_fitting 16 = .ok (.iaload, 1) := by decide +kernel
theorem dX6_fitting_17 : decode cX6_fitting 17 = .ok (.if_icmp .eq 5, 3) := by decide +kernel
theorem dX6_fitting_20 : decode cX6_fitting 20 = .ok (.iconst 0, 1) := by decide +kernel
theorem dX6_fitting_21 : decode cX6_fitting 21 = .ok (.ireturn, 1) := by decide +kernel
theorem dX6_fitting_22 : decode cX6_fitting 22 = .ok (.iconst 0, 1) := by decide +kernel
theorem dX6_fitting_23 : decode cX6_fitting 23 = .ok (.istore 4, 2) := by decide +kernel
theorem dX6_fitting_25 : decode cX6_fitting 25 = .ok (.iconst 0, 1) := by decide +kernel
theorem dX6_fitting_26 : decode cX6_fitting 26 = .ok (.istore 5, 2) := by decide +kernel
theorem dX6_fitting_28 : decode cX6_fitting 28 = .ok (.iload 5, 2) := by decide +kernel
theorem dX6_fitting_30 : decode cX6_fitting 30 = .ok (.aload_n 0, 1) := by decide +kernel
theorem dX6_fitting_31 : decode cX6_fitting 31 = .ok (.getfield 16, 3) := by decide +kernel
theorem dX6_fitting_34 : decode cX6_fitting 34 = .ok (.iload_n 2, 1) := by decide +kernel
theorem dX6_fitting_35 : decode cX6_fitting 35 = .ok (.iaload, 1) := by decide +kernel
theorem dX6_fitting_36 : decode cX6_fitting 36 = .ok (.if_icmp .ge 83, 3) := by decide +kernel
theorem dX6_fitting_39 : decode cX6_fitting 39 = .ok (.aload_n 0, 1) := by decide +kernel
theorem dX6_fitting_40 : decode cX6_fitting 40 = .ok (.iload_n 1, 1) := by decide +kernel
theorem dX6_fitting_41 : decode cX6_fitting 41 = .ok (.iload_n 2, 1) := by decide +kernel
theorem dX6_fitting_42 : decode cX6_fitting 42 = .ok (.iload 5, 2) := by decide +kernel
theorem dX6_fitting_44 : decode cX6_fitting 44 = .ok (.iconst 1, 1) := by decide +kernel
theorem dX6_fitting_45 : decode cX6_fitting 45 = .ok (.iload_n 3, 1) := by decide +kernel
theorem dX6_fitting_46 : decode cX6_fitting 46 = .ok (.invokevirtual 180, 3) := by decide +kernel
theorem dX6_fitting_49 : decode cX6_fitting 49 = .ok (.ifCond .ne 16, 3) := by decide +kernel
theorem dX6_fitting_52 : decode cX6_fitting 52 = .ok (.aload_n 0, 1) := by decide +kernel
theorem dX6_fitting_53 : decode cX6_fitting 53 = .ok (.iload_n 1, 1) := by decide +kernel
theorem dX6_fitting_54 : decode cX6_fitting 54 = .ok (.iload_n 2, 1) := by decide +kernel
theorem dX6_fitting_55 : decode cX6_fitting 55 = .ok (.iload 5, 2) := by decide +kernel
theorem dX6_fitting_57 : decode cX6_fitting 57 = .ok (.iconst 0, 1) := by decide +kernel
theorem dX6_fitting_58 : decode cX6_fitting 58 = .ok (.iload_n 3, 1) := by decide +kernel
theorem dX6_fitting_59 : decode cX6_fitting 59 = .ok (.invokevirtual 180, 3) := by decide +kernel
theorem dX6_fitting_62 : decode cX6_fitting 62 = .ok (.ifCond .eq 7, 3) := by decide +kernel
theorem dX6_fitting_65 : decode cX6_fitting 65 = .ok (.iconst 1, 1) := by decide +kernel
theorem dX6_fitting_66 : decode cX6_fitting 66 = .ok (.goto 4, 3) := by decide +kernel
theorem dX6_fitting_69 : decode cX6_fitting 69 = .ok (.iconst 0, 1) := by decide +kernel
theorem dX6_fitting_70 : decode cX6_fitting 70 = .ok (.istore 6, 2) := by decide +kernel
theorem dX6_fitting_72 : decode cX6_fitting 72 = .ok (.iload 4, 2) := by decide +kernel
theorem dX6_fitting_74 : decode cX6_fitting 74 = .ok (.iload 6, 2) := by decide +kernel
theorem dX6_fitting_76 : decode cX6_fitting 76 = .ok (.ifCond .eq 7, 3) := by decide +kernel
theorem dX6_fitting_79 : decode cX6_fitting 79 = .ok (.iconst 1, 1) := by decide +kernel
theorem dX6_fitting_80 : decode cX6_fitting 80 = .ok (.goto 4, 3) := by decide +kernel
theorem dX6_fitting_83 : decode cX6_fitting 83 = .ok (.iconst 0, 1) := by decide +kernel
theorem dX6_fitting_84 : decode cX6_fitting 84 = .ok (.iadd, 1) := by decide +kernel
theorem dX6_fitting_85 : decode cX6_fitting 85 = .ok (.istore 4, 2) := by decide +kernel
theorem dX6_fitting_87 : decode cX6_fitting 87 = .ok (.aload_n 0, 1) := by decide +kernel
theorem dX6_fitting_88 : decode cX6_fitting 88 = .ok (.iload 6, 2) := by decide +kernel
theorem dX6_fitting_90 : decode cX6_fitting 90 = .ok (.ifCond .eq 16, 3) := by decide +kernel
theorem dX6_fitting_93 : decode cX6_fitting 93 = .ok (.aload_n 0, 1) := by decide +kernel
theorem dX6_fitting_94 : decode cX6_fitting 94 = .ok (.getfield 177, 3) := by decide +kernel
theorem dX6_fitting_97 : decode cX6_fitting 97 = .ok (.iconst (-1), 1) := by decide +kernel
theorem dX6_fitting_98 : decode cX6_fitting 98 = .ok (.if_icmp .ne 8, 3) := by decide +kernel
theorem dX6_fitting_101 : decode cX6_fitting 101 = .ok (.iload 5, 2) := by decide +kernel
theorem dX6_fitting_103 : decode cX6_fitting 103 = .ok (.goto 7, 3) := by decide +kernel
theorem dX6_fitting_106 : decode cX6_fitting 106 = .ok (.aload_n 0, 1) := by decide +kernel
theorem dX6_fitting_107 : decode cX6_fitting 107 = .ok (.getfield 177, 3) := by decide +kernel
theorem dX6_fitting_110 : decode cX6_fitting 110 = .ok (.putfield 177, 3) := by decide +kernel
theorem dX6_fitting_113 : decode cX6_fitting 113 = .ok (.iinc 5 1, 3) := by decide +kernel
theorem dX6_fitting_116 : decode cX6_fitting 116 = .ok (.goto (-88), 3) := by decide +kernel
theorem dX6_fitting_119 : decode cX6_fitting 119 = .ok (.iload 4, 2) := by decide +kernel
theorem dX6_fitting_121 : decode cX6_fitting 121 = .ok (.ireturn, 1) := by decide +kernel
theorem dX6_same_0 : decode cX6_same 0 = .ok (.aload_n 0, 1) := by decide +kernel
theorem dX6_same_1 : decode cX6_same 1 = .ok (.iload_n 1, 1) := by decide +kernel
theorem dX6_same_2 : decode cX6_same 2 = .ok (.invokevirtual 102, 3) := by decide +kernel
theorem dX6_same_5 : decode cX6_same 5 = .ok (.ifCond .eq 11, 3) := by decide +kernel
theorem dX6_same_8 : decode cX6_same 8 = .ok (.aload_n 0, 1) := by decide +kernel
theorem dX6_same_9 : decode cX6_same 9 = .ok (.iload_n 2, 1) := by decide +kernel
theorem dX6_same_10 : decode cX6_same 10 = .ok (.invokevirtual 102, 3) := by decide +kernel
theorem dX6_same_13 : decode cX6_same 13 = .ok (.ifCond .ne 6, 3) := by decide +kernel
theorem dX6_same_16 : decode cX6_same 16 = .ok (.bipush (-2), 2) := by decide +kernel
theorem dX6_same_18 : decode cX6_same 18 = .ok (.ireturn, 1) := by decide +kernel
theorem dX6_same_19 : decode cX6_same 19 = .ok (.aload_n 0, 1) := by decide +kernel
theorem dX6_same_20 : decode cX6_same 20 = .ok (.iload_n 1, 1) := by decide +kernel
theorem dX6_same_21 : decode cX6_same 21 = .ok (.iload_n 2, 1) := by decide +kernel
theorem dX6_same_22 : decode cX6_same 22 = .ok (.iconst 0, 1) := by decide +kernel
theorem dX6_same_23 : decode cX6_same 23 = .ok (.invokevirtual 184, 3) := by decide +kernel
theorem dX6_same_26 : decode cX6_same 26 = .ok (.ifCond .le 7, 3) := by decide +kernel
theorem dX6_same_29 : decode cX6_same 29 = .ok (.iconst 1, 1) := by decide +kernel
theorem dX6_same_30 : decode cX6_same 30 = .ok (.goto 18, 3) := by decide +kernel
theorem dX6_same_33 : decode cX6_same 33 = .ok (.aload_n 0, 1) := by decide +kernel
theorem dX6_same_34 : decode cX6_same 34 = .ok (.iload_n 1, 1) := by decide +kernel
theorem dX6_same_35 : decode cX6_same 35 = .ok (.iload_n 2, 1) := by decide +kernel
theorem dX6_same_36 : decode cX6_same 36 = .ok (.iconst 1, 1) := by decide +kernel
theorem dX6_same_37 : decode cX6_same 37 = .ok (.invokevirtual 184, 3) := by decide +kernel
theorem dX6_same_40 : decode cX6_same 40 = .ok (.ifCond .le 7, 3) := by decide +kernel
theorem dX6_same_43 : decode cX6_same 43 = .ok (.iconst 2, 1) := by decide +kernel
theorem dX6_same_44 : decode cX6_same 44 = .ok (.goto 4, 3) := by decide +kernel
theorem dX6_same_47 : decode cX6_same 47 = .ok (.iconst 0, 1) := by decide +kernel
theorem dX6_same_48 : decode cX6_same 48 = .ok (.ireturn, 1) := by decide +kernel
theorem dX6_onto_0 : decode cX6_onto 0 = .ok (.aload_n 0, 1) := by decide +kernel
theorem dX6_onto_1 : decode cX6_onto 1 = .ok (.iload_n 1, 1) := by decide +kernel
theorem dX6_onto_2 : decode cX6_onto 2 = .ok (.invokevirtual 102, 3) := by decide +kernel
theorem dX6_onto_5 : decode cX6_onto 5 = .ok (.ifCond .eq 11, 3) := by decide +kernel
theorem dX6_onto_8 : decode cX6_onto 8 = .ok (.aload_n 0, 1) := by decide +kernel
theorem dX6_onto_9 : decode cX6_onto 9 = .ok (.iload_n 2, 1) := by decide +kernel
theorem dX6_onto_10 : decode cX6_onto 10 = .ok (.invokevirtual 102, 3) := by decide +kernel
theorem dX6_onto_13 : decode cX6_onto 13 = .ok (.ifCond .ne 6, 3) := by decide +kernel
theorem dX6_onto_16 : decode cX6_onto 16 = .ok (.bipush (-2), 2) := by decide +kernel
theorem dX6_onto_18 : decode cX6_onto 18 = .ok (.ireturn, 1) := by decide +kernel
theorem dX6_onto_19 : decode cX6_onto 19 = .ok (.aload_n 0, 1) := by decide +kernel
theorem dX6_onto_20 : decode cX6_onto 20 = .ok (.iload_n 1, 1) := by decide +kernel
theorem dX6_onto_21 : decode cX6_onto 21 = .ok (.iload_n 2, 1) := by decide +kernel
theorem dX6_onto_22 : decode cX6_onto 22 = .ok (.iconst 0, 1) := by decide +kernel
theorem dX6_onto_23 : decode cX6_onto 23 = .ok (.invokevirtual 184, 3) := by decide +kernel
theorem dX6_onto_26 : decode cX6_onto 26 = .ok (.istore_n 3, 1) := by decide +kernel
theorem dX6_onto_27 : decode cX6_onto 27 = .ok (.iload_n 3, 1) := by decide +kernel
theorem dX6_onto_28 : decode cX6_onto 28 = .ok (.ifCond .le 7, 3) := by decide +kernel
theorem dX6_onto_31 : decode cX6_onto 31 = .ok (.iload_n 3, 1) := by decide +kernel
theorem dX6_onto_32 : decode cX6_onto 32 = .ok (.goto 10, 3) := by decide +kernel
theorem dX6_onto_35 : decode cX6_onto 35 = .ok (.aload_n 0, 1) := by decide +kernel
theorem dX6_onto_36 : decode cX6_onto 36 = .ok (.iload_n 1, 1) := by decide +kernel
theorem dX6_onto_37 : decode cX6_onto 37 = .ok (.iload_n 2, 1) := by decide +kernel
theorem dX6_onto_38 : decode cX6_onto 38 = .ok (.iconst 1, 1) := by decide +kernel
theorem dX6_onto_39 : decode cX6_onto 39 = .ok (.invokevirtual 184, 3) := by decide +kernel
theorem dX6_onto_42 : decode cX6_onto 42 = .ok (.istore_n 3, 1) := by decide +kernel
theorem dX6_onto_43 : decode cX6_onto 43 = .ok (.aload_n 0, 1) := by decide +kernel
theorem dX6_onto_44 : decode cX6_onto 44 = .ok (.getfield 177, 3) := by decide +kernel
theorem dX6_onto_47 : decode cX6_onto 47 = .ok (.ireturn, 1) := by decide +kernel
theorem dX6_symmetries_0 : decode cX6_symmetries 0 = .ok (.aload_n 0, 1) := by decide +kernel
theorem dX6_symmetries_1 : decode cX6_symmetries 1 = .ok (.iload_n 1, 1) := by decide +kernel
theorem dX6_symmetries_2 : decode cX6_symmetries 2 = .ok (.invokevirtual 102, 3) := by decide +kernel
theorem dX6_symmetries_5 : decode cX6_symmetries 5 = .ok (.ifCond .ne 6, 3) := by decide +kernel
theorem dX6_symmetries_8 : decode cX6_symmetries 8 = .ok (.bipush (-2), 2) := by decide +kernel
theorem dX6_symmetries_10 : decode cX6_symmetries 10 = .ok (.ireturn, 1) := by decide +kernel
theorem dX6_symmetries_11 : decode cX6_symmetries 11 = .ok (.iload_n 2, 1) := by decide +kernel
theorem dX6_symmetries_12 : decode cX6_symmetries 12 = .ok (.iconst 0, 1) := by decide +kernel
theorem dX6_symmetries_13 : decode cX6_symmetries 13 = .ok (.iconst 1, 1) := by decide +kernel
theorem dX6_symmetries_14 : decode cX6_symmetries 14 = .ok (.invokestatic 69, 3) := by decide +kernel
theorem dX6_symmetries_17 : decode cX6_symmetries 17 = .ok (.ifCond .ne 6, 3) := by decide +kernel
theorem dX6_symmetries_20 : decode cX6_symmetries 20 = .ok (.bipush (-3), 2) := by decide +kernel
theorem dX6_symmetries_22 : decode cX6_symmetries 22 = .ok (.ireturn, 1) := by decide +kernel
theorem dX6_symmetries_23 : decode cX6_symmetries 23 = .ok (.aload_n 0, 1) := by decide +kernel
theorem dX6_symmetries_24 : decode cX6_symmetries 24 = .ok (.iload_n 1, 1) := by decide +kernel
theorem dX6_symmetries_25 : decode cX6_symmetries 25 = .ok (.iload_n 1, 1) := by decide +kernel
theorem dX6_symmetries_26 : decode cX6_symmetries 26 = .ok (.iconst 0, 1) := by decide +kernel
theorem dX6_symmetries_27 : decode cX6_symmetries 27 = .ok (.invokevirtual 184, 3) := by decide +kernel
theorem dX6_symmetries_30 : decode cX6_symmetries 30 = .ok (.iload_n 2, 1) := by decide +kernel
theorem dX6_symmetries_31 : decode cX6_symmetries 31 = .ok (.iconst 1, 1) := by decide +kernel
theorem dX6_symmetries_32 : decode cX6_symmetries 32 = .ok (.if_icmp .ne 13, 3) := by decide +kernel
theorem dX6_symmetries_35 : decode cX6_symmetries 35 = .ok (.aload_n 0, 1) := by decide +kernel
theorem dX6_symmetries_36 : decode cX6_symmetries 36 = .ok (.iload_n 1, 1) := by decide +kernel
theorem dX6_symmetries_37 : decode cX6_symmetries 37 = .ok (.iload_n 1, 1) := by decide +kernel
theorem dX6_symmetries_38 : decode cX6_symmetries 38 = .ok (.iconst 1, 1) := by decide +kernel
theorem dX6_symmetries_39 : decode cX6_symmetries 39 = .ok (.invokevirtual 184, 3) := by decide +kernel
theorem dX6_symmetries_42 : decode cX6_symmetries 42 = .ok (.goto 4, 3) := by decide +kernel
theorem dX6_symmetries_45 : decode cX6_symmetries 45 = .ok (.iconst 0, 1) := by decide +kernel
theorem dX6_symmetries_46 : decode cX6_symmetries 46 = .ok (.iadd, 1) := by decide +kernel
theorem dX6_symmetries_47 : decode cX6_symmetries 47 = .ok (.ireturn, 1) := by decide +kernel
