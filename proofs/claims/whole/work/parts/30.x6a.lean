theorem dX6_within_0 : decode cX6_within 0 = .ok (.iload_n 0, 1) := by decide +kernel
theorem dX6_within_1 : decode cX6_within 1 = .ok (.iload_n 1, 1) := by decide +kernel
theorem dX6_within_2 : decode cX6_within 2 = .ok (.if_icmp .lt 12, 3) := by decide +kernel
theorem dX6_within_5 : decode cX6_within 5 = .ok (.iload_n 0, 1) := by decide +kernel
theorem dX6_within_6 : decode cX6_within 6 = .ok (.iload_n 2, 1) := by decide +kernel
theorem dX6_within_7 : decode cX6_within 7 = .ok (.if_icmp .gt 7, 3) := by decide +kernel
theorem dX6_within_10 : decode cX6_within 10 = .ok (.iconst 1, 1) := by decide +kernel
theorem dX6_within_11 : decode cX6_within 11 = .ok (.goto 4, 3) := by decide +kernel
theorem dX6_within_14 : decode cX6_within 14 = .ok (.iconst 0, 1) := by decide +kernel
theorem dX6_within_15 : decode cX6_within 15 = .ok (.ireturn, 1) := by decide +kernel
theorem dX6_corner_0 : decode cX6_corner 0 = .ok (.iload_n 1, 1) := by decide +kernel
theorem dX6_corner_1 : decode cX6_corner 1 = .ok (.sipush (-1000), 3) := by decide +kernel
theorem dX6_corner_4 : decode cX6_corner 4 = .ok (.sipush 1000, 3) := by decide +kernel
theorem dX6_corner_7 : decode cX6_corner 7 = .ok (.invokestatic 69, 3) := by decide +kernel
theorem dX6_corner_10 : decode cX6_corner 10 = .ok (.ifCond .eq 16, 3) := by decide +kernel
theorem dX6_corner_13 : decode cX6_corner 13 = .ok (.iload_n 2, 1) := by decide +kernel
theorem dX6_corner_14 : decode cX6_corner 14 = .ok (.sipush (-1000), 3) := by decide +kernel
theorem dX6_corner_17 : decode cX6_corner 17 = .ok (.sipush 1000, 3) := by decide +kernel
theorem dX6_corner_20 : decode cX6_corner 20 = .ok (.invokestatic 69, 3) := by decide +kernel
theorem dX6_corner_23 : decode cX6_corner 23 = .ok (.ifCond .ne 6, 3) := by decide +kernel
theorem dX6_corner_26 : decode cX6_corner 26 = .ok (.bipush (-3), 2) := by decide +kernel
theorem dX6_corner_28 : decode cX6_corner 28 = .ok (.ireturn, 1) := by decide +kernel
theorem dX6_corner_29 : decode cX6_corner 29 = .ok (.aload_n 0, 1) := by decide +kernel
theorem dX6_corner_30 : decode cX6_corner 30 = .ok (.getfield 73, 3) := by decide +kernel
theorem dX6_corner_33 : decode cX6_corner 33 = .ok (.bipush 14, 2) := by decide +kernel
theorem dX6_corner_35 : decode cX6_corner 35 = .ok (.if_icmp .ne 6, 3) := by decide +kernel
theorem dX6_corner_38 : decode cX6_corner 38 = .ok (.bipush (-4), 2) := by decide +kernel
theorem dX6_corner_40 : decode cX6_corner 40 = .ok (.ireturn, 1) := by decide +kernel
theorem dX6_corner_41 : decode cX6_corner 41 = .ok (.aload_n 0, 1) := by decide +kernel
theorem dX6_corner_42 : decode cX6_corner 42 = .ok (.getfield 7, 3) := by decide +kernel
theorem dX6_corner_45 : decode cX6_corner 45 = .ok (.aload_n 0, 1) := by decide +kernel
theorem dX6_corner_46 : decode cX6_corner 46 = .ok (.getfield 73, 3) := by decide +kernel
theorem dX6_corner_49 : decode cX6_corner 49 = .ok (.iload_n 1, 1) := by decide +kernel
theorem dX6_corner_50 : decode cX6_corner 50 = .ok (.iastore, 1) := by decide +kernel
theorem dX6_corner_51 : decode cX6_corner 51 = .ok (.aload_n 0, 1) := by decide +kernel
theorem dX6_corner_52 : decode cX6_corner 52 = .ok (.getfield 13, 3) := by decide +kernel
theorem dX6_corner_55 : decode cX6_corner 55 = .ok (.aload_n 0, 1) := by decide +kernel
theorem dX6_corner_56 : decode cX6_corner 56 = .ok (.getfield 73, 3) := by decide +kernel
theorem dX6_corner_59 : decode cX6_corner 59 = .ok (.iload_n 2, 1) := by decide +kernel
theorem dX6_corner_60 : decode cX6_corner 60 = .ok (.iastore, 1) := by decide +kernel
theorem dX6_corner_61 : decode cX6_corner 61 = .ok (.aload_n 0, 1) := by decide +kernel
theorem dX6_corner_62 : decode cX6_corner 62 = .ok (.dup, 1) := by decide +kernel
theorem dX6_corner_63 : decode cX6_corner 63 = .ok (.getfield 73, 3) := by decide +kernel
theorem dX6_corner_66 : decode cX6_corner 66 = .ok (.iconst 1, 1) := by decide +kernel
theorem dX6_corner_67 : decode cX6_corner 67 = .ok (.iadd, 1) := by decide +kernel
theorem dX6_corner_68 : decode cX6_corner 68 = .ok (.putfield 73, 3) := by decide +kernel
theorem dX6_corner_71 : decode cX6_corner 71 = .ok (.aload_n 0, 1) := by decide +kernel
theorem dX6_corner_72 : decode cX6_corner 72 = .ok (.getfield 73, 3) := by decide +kernel
theorem dX6_corner_75 : decode cX6_corner 75 = .ok (.ireturn, 1) := by decide +kernel
theorem dX6_turn_0 : decode cX6_turn 0 = .ok (.iload_n 2, 1) := by decide +kernel
theorem dX6_turn_1 : decode cX6_turn 1 = .ok (.iload_n 0, 1) := by decide +kernel
theorem dX6_turn_2 : decode cX6_turn 2 = .ok (.isub, 1) := by decide +kernel
theorem dX6_turn_3 : decode cX6_turn 3 = .ok (.iload 5, 2) := by decide +kernel
theorem dX6_turn_5 : decode cX6_turn 5 = .ok (.iload_n 1, 1) := by decide +kernel
theorem dX6_turn_6 : decode cX6_turn 6 = .ok (.isub, 1) := by decide +kernel
theorem dX6_turn_7 : decode cX6_turn 7 = .ok (.imul, 1) := by decide +kernel
theorem dX6_turn_8 : decode cX6_turn 8 = .ok (.iload_n 3, 1) := by decide +kernel
theorem dX6_turn_9 : decode cX6_turn 9 = .ok (.iload_n 1, 1) := by decide +kernel
theorem dX6_turn_10 : decode cX6_turn 10 = .ok (.isub, 1) := by decide +kernel
theorem dX6_turn_11 : decode cX6_turn 11 = .ok (.iload 4, 2) := by decide +kernel
theorem dX6_turn_13 : decode cX6_turn 13 = .ok (.iload_n 0, 1) := by decide +kernel
theorem dX6_turn_14 : decode cX6_turn 14 = .ok (.isub, 1) := by decide +kernel
theorem dX6_turn_15 : decode cX6_turn 15 = .ok (.imul, 1) := by decide +kernel
theorem dX6_turn_16 : decode cX6_turn 16 = .ok (.isub, 1) := by decide +kernel
theorem dX6_turn_17 : decode cX6_turn 17 = .ok (.ireturn, 1) := by decide +kernel
theorem dX6_isBetween_0 : decode cX6_isBetween 0 = .ok (.iload_n 0, 1) := by decide +kernel
theorem dX6_isBetween_1 : decode cX6_isBetween 1 = .ok (.iload_n 2, 1) := by decide +kernel
theorem dX6_isBetween_2 : decode cX6_isBetween 2 = .ok (.if_icmp .ge 23, 3) := by decide +kernel
theorem dX6_isBetween_5 : decode cX6_isBetween 5 = .ok (.iload 4, 2) := by decide +kernel
theorem dX6_isBetween_7 : decode cX6_isBetween 7 = .ok (.iload_n 0, 1) := by decide +kernel
theorem dX6_isBetween_8 : decode cX6_isBetween 8 = .ok (.if_icmp .lt 13, 3) := by decide +kernel
theorem dX6_isBetween_11 : decode cX6_isBetween 11 = .ok (.iload 4, 2) := by decide +kernel
theorem dX6_isBetween_13 : decode cX6_isBetween 13 = .ok (.iload_n 2, 1) := by decide +kernel
theorem dX6_isBetween_14 : decode cX6_isBetween 14 = .ok (.if_icmp .gt 7, 3) := by decide +kernel
theorem dX6_isBetween_17 : decode cX6_isBetween 17 = .ok (.iconst 1, 1) := by decide +kernel
theorem dX6_isBetween_18 : decode cX6_isBetween 18 = .ok (.goto 24, 3) := by decide +kernel
theorem dX6_isBetween_21 : decode cX6_isBetween 21 = .ok (.iconst 0, 1) := by decide +kernel
theorem dX6_isBetween_22 : decode cX6_isBetween 22 = .ok (.goto 20, 3) := by decide +kernel
theorem dX6_isBetween_25 : decode cX6_isBetween 25 = .ok (.iload 4, 2) := by decide +kernel
theorem dX6_isBetween_27 : decode cX6_isBetween 27 = .ok (.iload_n 2, 1) := by decide +kernel
theorem dX6_isBetween_28 : decode cX6_isBetween 28 = .ok (.if_icmp .lt 13, 3) := by decide +kernel
theorem dX6_isBetween_31 : decode cX6_isBetween 31 = .ok (.iload 4, 2) := by decide +kernel
theorem dX6_isBetween_33 : decode cX6_isBetween 33 = .ok (.iload_n 0, 1) := by decide +kernel
theorem dX6_isBetween_34 : decode cX6_isBetween 34 = .ok (.if_icmp .gt 7, 3) := by decide +kernel
theorem dX6_isBetween_37 : decode cX6_isBetween 37 = .ok (.iconst 1, 1) := by decide +kernel
theorem dX6_isBetween_38 : decode cX6_isBetween 38 = .ok (.goto 4, 3) := by decide +kernel
theorem dX6_isBetween_41 : decode cX6_isBetween 41 = .ok (.iconst 0, 1) := by decide +kernel
theorem dX6_isBetween_42 : decode cX6_isBetween 42 = .ok (.istore 6, 2) := by decide +kernel
theorem dX6_isBetween_44 : decode cX6_isBetween 44 = .ok (.iload_n 1, 1) := by decide +kernel
theorem dX6_isBetween_45 : decode cX6_isBetween 45 = .ok (.iload_n 3, 1) := by decide +kernel
theorem dX6_isBetween_46 : decode cX6_isBetween 46 = .ok (.if_icmp .ge 23, 3) := by decide +kernel
theorem dX6_isBetween_49 : decode cX6_isBetween 49 = .ok (.iload 5, 2) := by decide +kernel
theorem dX6_isBetween_51 : decode cX6_isBetween 51 = .ok (.iload_n 1, 1) := by decide +kernel
theorem dX6_isBetween_52 : decode cX6_isBetween 52 = .ok (.if_icmp .lt 13, 3) := by decide +kernel
theorem dX6_isBetween_55 : decode cX6_isBetween 55 = .ok (.iload 5, 2) := by decide +kernel
theorem dX6_isBetween_57 : decode cX6_isBetween 57 = .ok (.iload_n 3, 1) := by decide +kernel
theorem dX6_isBetween_58 : decode cX6_isBetween 58 = .ok (.if_icmp .gt 7, 3) := by decide +kernel
theorem dX6_isBetween_61 : decode cX6_isBetween 61 = .ok (.iconst 1, 1) := by decide +kernel
theorem dX6_isBetween_62 : decode cX6_isBetween 62 = .ok (.goto 24, 3) := by decide +kernel
theorem dX6_isBetween_65 : decode cX6_isBetween 65 = .ok (.iconst 0, 1) := by decide +kernel
theorem dX6_isBetween_66 : decode cX6_isBetween 66 = .ok (.goto 20, 3) := by decide +kernel
theorem dX6_isBetween_69 : decode cX6_isBetween 69 = .ok (.iload 5, 2) := by decide +kernel
theorem dX6_isBetween_71 : decode cX6_isBetween 71 = .ok (.iload_n 3, 1) := by decide +kernel
theorem dX6_isBetween_72 : decode cX6_isBetween 72 = .ok (.if_icmp .lt 13, 3) := by decide +kernel
theorem dX6_isBetween_75 : decode cX6_isBetween 75 = .ok (.iload 5, 2) := by decide +kernel
theorem dX6_isBetween_77 : decode cX6_isBetween 77 = .ok (.iload_n 1, 1) := by decide +kernel
theorem dX6_isBetween_78 : decode cX6_isBetween 78 = .ok (.if_icmp .gt 7, 3) := by decide +kernel
theorem dX6_isBetween_81 : decode cX6_isBetween 81 = .ok (.iconst 1, 1) := by decide +kernel
theorem dX6_isBetween_82 : decode cX6_isBetween 82 = .ok (.goto 4, 3) := by decide +kernel
theorem dX6_isBetween_85 : decode cX6_isBetween 85 = .ok (.iconst 0, 1) := by decide +kernel
theorem dX6_isBetween_86 : decode cX6_isBetween 86 = .ok (.istore 7, 2) := by decide +kernel
theorem dX6_isBetween_88 : decode cX6_isBetween 88 = .ok (.iload_n 0, 1) := by decide +kernel
theorem dX6_isBetween_89 : decode cX6_isBetween 89 = .ok (.iload_n 1, 1) := by decide +kernel
theorem dX6_isBetween_90 : decode cX6_isBetween 90 = .ok (.iload_n 2, 1) := by decide +kernel
theorem dX6_isBetween_91 : decode cX6_isBetween 91 = .ok (.iload_n 3, 1) := by decide +kernel
theorem dX6_isBetween_92 : decode cX6_isBetween 92 = .ok (.iload 4, 2) := by decide +kernel
theorem dX6_isBetween_94 : decode cX6_isBetween 94 = .ok (.iload 5, 2) := by decide +kernel
theorem dX6_isBetween_96 : decode cX6_isBetween 96 = .ok (.invokestatic 76, 3) := by decide +kernel
theorem dX6_isBetween_99 : decode cX6_isBetween 99 = .ok (.ifCond .ne 17, 3) := by decide +kernel
theorem dX6_isBetween_102 : decode cX6_isBetween 102 = .ok (.iload 6, 2) := by decide +kernel
theorem dX6_isBetween_104 : decode cX6_isBetween 104 = .ok (.ifCond .eq 12, 3) := by decide +kernel
theorem dX6_isBetween_107 : decode cX6_isBetween 107 = .ok (.iload 7, 2) := by decide +kernel
theorem dX6_isBetween_109 : decode cX6_isBetween 109 = .ok (.ifCond .eq 7, 3) := by decide +kernel
theorem dX6_isBetween_112 : decode cX6_isBetween 112 = .ok (.iconst 1, 1) := by decide +kernel
theorem dX6_isBetween_113 : decode cX6_isBetween 113 = .ok (.goto 4, 3) := by decide +kernel
theorem dX6_isBetween_116 : decode cX6_isBetween 116 = .ok (.iconst 0, 1) := by decide +kernel
theorem dX6_isBetween_117 : decode cX6_isBetween 117 = .ok (.ireturn, 1) := by decide +kernel
theorem dX6_sign_0 : decode cX6_sign 0 = .ok (.iload_n 0, 1) := by decide +kernel
theorem dX6_sign_1 : decode cX6_sign 1 = .ok (.ifCond .le 7, 3) := by decide +kernel
theorem dX6_sign_4 : decode cX6_sign 4 = .ok (.iconst 1, 1) := by decide +kernel
theorem dX6_sign_5 : decode cX6_sign 5 = .ok (.goto 12, 3) := by decide +kernel
theorem dX6_sign_8 : decode cX6_sign 8 = .ok (.iload_n 0, 1) := by decide +kernel
theorem dX6_sign_9 : decode cX6_sign 9 = .ok (.ifCond .ge 7, 3) := by decide +kernel
theorem dX6_sign_12 : decode cX6_sign 12 = .ok (.iconst (-1), 1) := by decide +kernel
theorem dX6_sign_13 : decode cX6_sign 13 = .ok (.goto 4, 3) := by decide +kernel
theorem dX6_sign_16 : decode cX6_sign 16 = .ok (.iconst 0, 1) := by decide +kernel
theorem dX6_sign_17 : decode cX6_sign 17 = .ok (.ireturn, 1) := by decide +kernel
theorem dX6_meet_0 : decode cX6_meet 0 = .ok (.iload_n 0, 1) := by decide +kernel
theorem dX6_meet_1 : decode cX6_meet 1 = .ok (.iload_n 1, 1) := by decide +kernel
theorem dX6_meet_2 : decode cX6_meet 2 = .ok (.iload_n 2, 1) := by decide +kernel
theorem dX6_meet_3 : decode cX6_meet 3 = .ok (.iload_n 3, 1) := by decide +kernel
theorem dX6_meet_4 : decode cX6_meet 4 = .ok (.iload 4, 2) := by decide +kernel
theorem dX6_meet_6 : decode cX6_meet 6 = .ok (.iload 5, 2) := by decide +kernel
theorem dX6_meet_8 : decode cX6_meet 8 = .ok (.invokestatic 76, 3) := by decide +kernel
theorem dX6_meet_11 : decode cX6_meet 11 = .ok (.invokestatic 80, 3) := by decide +kernel
theorem dX6_meet_14 : decode cX6_meet 14 = .ok (.istore 8, 2) := by decide +kernel
theorem dX6_meet_16 : decode cX6_meet 16 = .ok (.iload_n 0, 1) := by decide +kernel
theorem dX6_meet_17 : decode cX6_meet 17 = .ok (.iload_n 1, 1) := by decide +kernel
theorem dX6_meet_18 : decode cX6_meet 18 = .ok (.iload_n 2, 1) := by decide +kernel
theorem dX6_meet_19 : decode cX6_meet 19 = .ok (.iload_n 3, 1) := by decide +kernel
theorem dX6_meet_20 : decode cX6_meet 20 = .ok (.iload 6, 2) := by decide +kernel
theorem dX6_meet_22 : decode cX6_meet 22 = .ok (.iload 7, 2) := by decide +kernel
theorem dX6_meet_24 : decode cX6_meet 24 = .ok (.invokestatic 76, 3) := by decide +kernel
theorem dX6_meet_27 : decode cX6_meet 27 = .ok (.invokestatic 80, 3) := by decide +kernel
theorem dX6_meet_30 : decode cX6_meet 30 = .ok (.istore 9, 2) := by decide +kernel
theorem dX6_meet_32 : decode cX6_meet 32 = .ok (.iload 4, 2) := by decide +kernel
theorem dX6_meet_34 : decode cX6_meet 34 = .ok (.iload 5, 2) := by decide +kernel
theorem dX6_meet_36 : decode cX6_meet 36 = .ok (.iload 6, 2) := by decide +kernel
theorem dX6_meet_38 : decode cX6_meet 38 = .ok (.iload 7, 2) := by decide +kernel
theorem dX6_meet_40 : decode cX6_meet 40 = .ok (.iload_n 0, 1) := by decide +kernel
theorem dX6_meet_41 : decode cX6_meet 41 = .ok (.iload_n 1, 1) := by decide +kernel
theorem dX6_meet_42 : decode cX6_meet 42 = .ok (.invokestatic 76, 3) := by decide +kernel
theorem dX6_meet_45 : decode cX6_meet 45 = .ok (.invokestatic 80, 3) := by decide +kernel
theorem dX6_meet_48 : decode cX6_meet 48 = .ok (.istore 10, 2) := by decide +kernel
theorem dX6_meet_50 : decode cX6_meet 50 = .ok (.iload 4, 2) := by decide +kernel
theorem dX6_meet_52 : decode cX6_meet 52 = .ok (.iload 5, 2) := by decide +kernel
theorem dX6_meet_54 : decode cX6_meet 54 = .ok (.iload 6, 2) := by decide +kernel
theorem dX6_meet_56 : decode cX6_meet 56 = .ok (.iload 7, 2) := by decide +kernel
theorem dX6_meet_58 : decode cX6_meet 58 = .ok (.iload_n 2, 1) := by decide +kernel
theorem dX6_meet_59 : decode cX6_meet 59 = .ok (.iload_n 3, 1) := by decide +kernel
theorem dX6_meet_60 : decode cX6_meet 60 = .ok (.invokestatic 76, 3) := by decide +kernel
theorem dX6_meet_63 : decode cX6_meet 63 = .ok (.invokestatic 80, 3) := by decide +kernel
theorem dX6_meet_66 : decode cX6_meet 66 = .ok (.istore 11, 2) := by decide +kernel
theorem dX6_meet_68 : decode cX6_meet 68 = .ok (.iload 8, 2) := by decide +kernel
theorem dX6_meet_70 : decode cX6_meet 70 = .ok (.iload 9, 2) := by decide +kernel
theorem dX6_meet_72 : decode cX6_meet 72 = .ok (.imul, 1) := by decide +kernel
theorem dX6_meet_73 : decode cX6_meet 73 = .ok (.ifCond .ge 13, 3) := by decide +kernel
theorem dX6_meet_76 : decode cX6_meet 76 = .ok (.iload 10, 2) := by decide +kernel
theorem dX6_meet_78 : decode cX6_meet 78 = .ok (.iload 11, 2) := by decide +kernel
theorem dX6_meet_80 : decode cX6_meet 80 = .ok (.imul, 1) := by decide +kernel
theorem dX6_meet_81 : decode cX6_meet 81 = .ok (.ifCond .ge 5, 3) := by decide +kernel
theorem dX6_meet_84 : decode cX6_meet 84 = .ok (.iconst 1, 1) := by decide +kernel
theorem dX6_meet_85 : decode cX6_meet 85 = .ok (.ireturn, 1) := by decide +kernel
theorem dX6_meet_86 : decode cX6_meet 86 = .ok (.iload_n 0, 1) := by decide +kernel
theorem dX6_meet_87 : decode cX6_meet 87 = .ok (.iload_n 1, 1) := by decide +kernel
theorem dX6_meet_88 : decode cX6_meet 88 = .ok (.iload_n 2, 1) := by decide +kernel
theorem dX6_meet_89 : decode cX6_meet 89 = .ok (.iload_n 3, 1) := by decide +kernel
theorem dX6_meet_90 : decode cX6_meet 90 = .ok (.iload 4, 2) := by decide +kernel
theorem dX6_meet_92 : decode cX6_meet 92 = .ok (.iload 5, 2) := by decide +kernel
theorem dX6_meet_94 : decode cX6_meet 94 = .ok (.invokestatic 84, 3) := by decide +kernel
theorem dX6_meet_97 : decode cX6_meet 97 = .ok (.ifCond .ne 49, 3) := by decide +kernel
theorem dX6_meet_100 : decode cX6_meet 100 = .ok (.iload_n 0, 1) := by decide +kernel
theorem dX6_meet_101 : decode cX6_meet 101 = .ok (.iload_n 1, 1) := by decide +kernel
theorem dX6_meet_102 : decode cX6_meet 102 = .ok (.iload_n 2, 1) := by decide +kernel
theorem dX6_meet_103 : decode cX6_meet 103 = .ok (.iload_n 3, 1) := by decide +kernel
theorem dX6_meet_104 : decode cX6_meet 104 = .ok (.iload 6, 2) := by decide +kernel
theorem dX6_meet_106 : decode cX6_meet 106 = .ok (.iload 7, 2) := by decide +kernel
theorem dX6_meet_108 : decode cX6_meet 108 = .ok (.invokestatic 84, 3) := by decide +kernel
theorem dX6_meet_111 : decode cX6_meet 111 = .ok (.ifCond .ne 35, 3) := by decide +kernel
theorem dX6_meet_114 : decode cX6_meet 114 = .ok (.iload 4, 2) := by decide +kernel
theorem dX6_meet_116 : decode cX6_meet 116 = .ok (.iload 5, 2) := by decide +kernel
theorem dX6_meet_118 : decode cX6_meet 118 = .ok (.iload 6, 2) := by decide +kernel
theorem dX6_meet_120 : decode cX6_meet 120 = .ok (.iload 7, 2) := by decide +kernel
theorem dX6_meet_122 : decode cX6_meet 122 = .ok (.iload_n 0, 1) := by decide +kernel
theorem dX6_meet_123 : decode cX6_meet 123 = .ok (.iload_n 1, 1) := by decide +kernel
theorem dX6_meet_124 : decode cX6_meet 124 = .ok (.invokestatic 84, 3) := by decide +kernel
theorem dX6_meet_127 : decode cX6_meet 127 = .ok (.ifCond .ne 19, 3) := by decide +kernel
theorem dX6_meet_130 : decode cX6_meet 130 = .ok (.iload 4, 2) := by decide +kernel
theorem dX6_meet_132 : decode cX6_meet 132 = .ok (.iload 5, 2) := by decide +kernel
theorem dX6_meet_134 : decode cX6_meet 134 = .ok (.iload 6, 2) := by decide +kernel
theorem dX6_meet_136 : decode cX6_meet 136 = .ok (.iload 7, 2) := by decide +kernel
theorem dX6_meet_138 : decode cX6_meet 138 = .ok (.iload_n 2, 1) := by decide +kernel
theorem dX6_meet_139 : decode cX6_meet 139 = .ok (.iload_n 3, 1) := by decide +kernel
theorem dX6_meet_140 : decode cX6_meet 140 = .ok (.invokestatic 84, 3) := by decide +kernel
theorem dX6_meet_143 : decode cX6_meet 143 = .ok (.ifCond .eq 7, 3) := by decide +kernel
theorem dX6_meet_146 : decode cX6_meet 146 = .ok (.iconst 1, 1) := by decide +kernel
theorem dX6_meet_147 : decode cX6_meet 147 = .ok (.goto 4, 3) := by decide +kernel
theorem dX6_meet_150 : decode cX6_meet 150 = .ok (.iconst 0, 1) := by decide +kernel
theorem dX6_meet_151 : decode cX6_meet 151 = .ok (.ireturn, 1) := by decide +kernel
theorem dX6_straight_0 : decode cX6_straight 0 = .ok (.iconst 0, 1) := by decide +kernel
theorem dX6_straight_1 : decode cX6_straight 1 = .ok (.istore_n 1, 1) := by decide +kernel
theorem dX6_straight_2 : decode cX6_straight 2 = .ok (.iload_n 1, 1) := by decide +kernel
theorem dX6_straight_3 : decode cX6_straight 3 = .ok (.aload_n 0, 1) := by decide +kernel
theorem dX6_straight_4 : decode cX6_straight 4 = .ok (.getfield 73, 3) := by decide +kernel
theorem dX6_straight_7 : decode cX6_straight 7 = .ok (.if_icmp .ge 76, 3) := by decide +kernel
theorem dX6_straight_10 : decode cX6_straight 10 = .ok (.iload_n 1, 1) := by decide +kernel
theorem dX6_straight_11 : decode cX6_straight 11 = .ok (.aload_n 0, 1) := by decide +kernel
theorem dX6_straight_12 : decode cX6_straight 12 = .ok (.getfield 73, 3) := by decide +kernel
theorem dX6_straight_15 : decode cX6_straight 15 = .ok (.iadd, 1) := by decide +kernel
theorem dX6_straight_16 : decode cX6_straight 16 = .ok (.iconst 1, 1) := by decide +kernel
theorem dX6_straight_17 : decode cX6_straight 17 = .ok (.isub, 1) := by decide +kernel
theorem dX6_straight_18 : decode cX6_straight 18 = .ok (.aload_n 0, 1) := by decide +kernel
theorem dX6_straight_19 : decode cX6_straight 19 = .ok (.getfield 73, 3) := by decide +kernel
theorem dX6_straight_22 : decode cX6_straight 22 = .ok (.irem, 1) := by decide +kernel
theorem dX6_straight_23 : decode cX6_straight 23 = .ok (.istore_n 2, 1) := by decide +kernel
theorem dX6_straight_24 : decode cX6_straight 24 = .ok (.iload_n 1, 1) := by decide +kernel
theorem dX6_straight_25 : decode cX6_straight 25 = .ok (.iconst 1, 1) := by decide +kernel
theorem dX6_straight_26 : decode cX6_straight 26 = .ok (.iadd, 1) := by decide +kernel
theorem dX6_straight_27 : decode cX6_straight 27 = .ok (.aload_n 0, 1) := by decide +kernel
theorem dX6_straight_28 : decode cX6_straight 28 = .ok (.getfield 73, 3) := by decide +kernel
theorem dX6_straight_31 : decode cX6_straight 31 = .ok (.irem, 1) := by decide +kernel
theorem dX6_straight_32 : decode cX6_straight 32 = .ok (.istore_n 3, 1) := by decide +kernel
theorem dX6_straight_33 : decode cX6_straight 33 = .ok (.aload_n 0, 1) := by decide +kernel
theorem dX6_straight_34 : decode cX6_straight 34 = .ok (.getfield 7, 3) := by decide +kernel
theorem dX6_straight_37 : decode cX6_straight 37 = .ok (.iload_n 2, 1) := by decide +kernel
theorem dX6_straight_38 : decode cX6_straight 38 = .ok (.iaload, 1) := by decide +kernel
theorem dX6_straight_39 : decode cX6_straight 39 = .ok (.aload_n 0, 1) := by decide +kernel
theorem dX6_straight_40 : decode cX6_straight 40 = .ok (.getfield 13, 3) := by decide +kernel
theorem dX6_straight_43 : decode cX6_straight 43 = .ok (.iload_n 2, 1) := by decide +kernel
theorem dX6_straight_44 : decode cX6_straight 44 = .ok (.iaload, 1) := by decide +kernel
theorem dX6_straight_45 : decode cX6_straight 45 = .ok (.aload_n 0, 1) := by decide +kernel
theorem dX6_straight_46 : decode cX6_straight 46 = .ok (.getfield 7, 3) := by decide +kernel
theorem dX6_straight_49 : decode cX6_straight 49 = .ok (.iload_n 1, 1) := by decide +kernel
theorem dX6_straight_50 : decode cX6_straight 50 = .ok (.iaload, 1) := by decide +kernel
theorem dX6_straight_51 : decode cX6_straight 51 = .ok (.aload_n 0, 1) := by decide +kernel
theorem dX6_straight_52 : decode cX6_straight 52 = .ok (.getfield 13, 3) := by decide +kernel
theorem dX6_straight_55 : decode cX6_straight 55 = .ok (.iload_n 1, 1) := by decide +kernel
theorem dX6_straight_56 : decode cX6_straight 56 = .ok (.iaload, 1) := by decide +kernel
theorem dX6_straight_57 : decode cX6_straight 57 = .ok (.aload_n 0, 1) := by decide +kernel
theorem dX6_straight_58 : decode cX6_straight 58 = .ok (.getfield 7, 3) := by decide +kernel
theorem dX6_straight_61 : decode cX6_straight 61 = .ok (.iload_n 3, 1) := by decide +kernel
theorem dX6_straight_62 : decode cX6_straight 62 = .ok (.iaload, 1) := by decide +kernel
theorem dX6_straight_63 : decode cX6_straight 63 = .ok (.aload_n 0, 1) := by decide +kernel
theorem dX6_straight_64 : decode cX6_straight 64 = .ok (.getfield 13, 3) := by decide +kernel
theorem dX6_straight_67 : decode cX6_straight 67 = .ok (.iload_n 3, 1) := by decide +kernel
theorem dX6_straight_68 : decode cX6_straight 68 = .ok (.iaload, 1) := by decide +kernel
theorem dX6_straight_69 : decode cX6_straight 69 = .ok (.invokestatic 76, 3) := by decide +kernel
theorem dX6_straight_72 : decode cX6_straight 72 = .ok (.ifCond .ne 5, 3) := by decide +kernel
theorem dX6_straight_75 : decode cX6_straight 75 = .ok (.iload_n 1, 1) := by decide +kernel
theorem dX6_straight_76 : decode cX6_straight 76 = .ok (.ireturn, 1) := by decide +kernel
theorem dX6_straight_77 : decode cX6_straight 77 = .ok (.iinc 1 1, 3) := by decide +kernel
theorem dX6_straight_80 : decode cX6_straight 80 = .ok (.goto (-78), 3) := by decide +kernel
theorem dX6_straight_83 : decode cX6_straight 83 = .ok (.iconst (-1), 1) := by decide +kernel
theorem dX6_straight_84 : decode cX6_straight 84 = .ok (.ireturn, 1) := by decide +kernel
theorem dX6_crossed_0 : decode cX6_crossed 0 = .ok (.iconst 0, 1) := by decide +kernel
theorem dX6_crossed_1 : decode cX6_crossed 1 = .ok (.istore_n 1, 1) := by decide +kernel
theorem dX6_crossed_2 : decode cX6_crossed 2 = .ok (.iload_n 1, 1) := by decide +kernel
theorem dX6_crossed_3 : decode cX6_crossed 3 = .ok (.aload_n 0, 1) := by decide +kernel
theorem dX6_crossed_4 : decode cX6_crossed 4 = .ok (.getfield 73, 3) := by decide +kernel
theorem dX6_crossed_7 : decode cX6_crossed 7 = .ok (.if_icmp .ge 129, 3) := by decide +kernel
theorem dX6_crossed_10 : decode cX6_crossed 10 = .ok (.iload_n 1, 1) := by decide +kernel
theorem dX6_crossed_11 : decode cX6_crossed 11 = .ok (.iconst 2, 1) := by decide +kernel
theorem dX6_crossed_12 : decode cX6_crossed 12 = .ok (.iadd, 1) := by decide +kernel
theorem dX6_crossed_13 : decode cX6_crossed 13 = .ok (.istore_n 2, 1) := by decide +kernel
theorem dX6_crossed_14 : decode cX6_crossed 14 = .ok (.iload_n 2, 1) := by decide +kernel
theorem dX6_crossed_15 : decode cX6_crossed 15 = .ok (.aload_n 0, 1) := by decide +kernel
theorem dX6_crossed_16 : decode cX6_crossed 16 = .ok (.getfield 73, 3) := by decide +kernel
theorem dX6_crossed_19 : decode cX6_crossed 19 = .ok (.if_icmp .ge 111, 3) := by decide +kernel
theorem dX6_crossed_22 : decode cX6_crossed 22 = .ok (.iload_n 2, 1) := by decide +kernel
theorem dX6_crossed_23 : decode cX6_crossed 23 = .ok (.iconst 1, 1) := by decide +kernel
theorem dX6_crossed_24 : decode cX6_crossed 24 = .ok (.iadd, 1) := by decide +kernel
theorem dX6_crossed_25 : decode cX6_crossed 25 = .ok (.aload_n 0, 1) := by decide +kernel
theorem dX6_crossed_26 : decode cX6_crossed 26 = .ok (.getfield 73, 3) := by decide +kernel
theorem dX6_crossed_29 : decode cX6_crossed 29 = .ok (.irem, 1) := by decide +kernel
theorem dX6_crossed_30 : decode cX6_crossed 30 = .ok (.iload_n 1, 1) := by decide +kernel
theorem dX6_crossed_31 : decode cX6_crossed 31 = .ok (.if_icmp .ne 7, 3) := by decide +kernel
theorem dX6_crossed_34 : decode cX6_crossed 34 = .ok (.iconst 1, 1) := by decide +kernel
theorem dX6_crossed_35 : decode cX6_crossed 35 = .ok (.goto 4, 3) := by decide +kernel
theorem dX6_crossed_38 : decode cX6_crossed 38 = .ok (.iconst 0, 1) := by decide +kernel
theorem dX6_crossed_39 : decode cX6_crossed 39 = .ok (.istore_n 3, 1) := by decide +kernel
theorem dX6_crossed_40 : decode cX6_crossed 40 = .ok (.iload_n 1, 1) := by decide +kernel
theorem dX6_crossed_41 : decode cX6_crossed 41 = .ok (.iconst 1, 1) := by decide +kernel
theorem dX6_crossed_42 : decode cX6_crossed 42 = .ok (.iadd, 1) := by decide +kernel
theorem dX6_crossed_43 : decode cX6_crossed 43 = .ok (.istore 4, 2) := by decide +kernel
theorem dX6_crossed_45 : decode cX6_crossed 45 = .ok (.iload_n 2, 1) := by decide +kernel
theorem dX6_crossed_46 : decode cX6_crossed 46 = .ok (.iconst 1, 1) := by decide +kernel
theorem dX6_crossed_47 : decode cX6_crossed 47 = .ok (.iadd, 1) := by decide +kernel
theorem dX6_crossed_48 : decode cX6_crossed 48 = .ok (.aload_n 0, 1) := by decide +kernel
theorem dX6_crossed_49 : decode cX6_crossed 49 = .ok (.getfield 73, 3) := by decide +kernel
theorem dX6_crossed_52 : decode cX6_crossed 52 = .ok (.irem, 1) := by decide +kernel
theorem dX6_crossed_53 : decode cX6_crossed 53 = .ok (.istore 5, 2) := by decide +kernel
theorem dX6_crossed_55 : decode cX6_crossed 55 = .ok (.iload_n 3, 1) := by decide +kernel
theorem dX6_crossed_56 : decode cX6_crossed 56 = .ok (.ifCond .ne 68, 3) := by decide +kernel
theorem dX6_crossed_59 : decode cX6_crossed 59 = .ok (.aload_n 0, 1) := by decide +kernel
theorem dX6_crossed_60 : decode cX6_crossed 60 = .ok (.getfield 7, 3) := by decide +kernel
theorem dX6_crossed_63 : decode cX6_crossed 63 = .ok (.iload_n 1, 1) := by decide +kernel
theorem dX6_crossed_64 : decode cX6_crossed 64 = .ok (.iaload, 1) := by decide +kernel
theorem dX6_crossed_65 : decode cX6_crossed 65 = .ok (.aload_n 0, 1) := by decide +kernel
theorem dX6_crossed_66 : decode cX6_crossed 66 = .ok (.getfield 13, 3) := by decide +kernel
theorem dX6_crossed_69 : decode cX6_crossed 69 = .ok (.iload_n 1, 1) := by decide +kernel
theorem dX6_crossed_70 : decode cX6_crossed 70 = .ok (.iaload, 1) := by decide +kernel
theorem dX6_crossed_71 : decode cX6_crossed 71 = .ok (.aload_n 0, 1) := by decide +kernel
theorem dX6_crossed_72 : decode cX6_crossed 72 = .ok (.getfield 7, 3) := by decide +kernel
theorem dX6_crossed_75 : decode cX6_crossed 75 = .ok (.iload 4, 2) := by decide +kernel
theorem dX6_crossed_77 : decode cX6_crossed 77 = .ok (.iaload, 1) := by decide +kernel
theorem dX6_crossed_78 : decode cX6_crossed 78 = .ok (.aload_n 0, 1) := by decide +kernel
theorem dX6_crossed_79 : decode cX6_crossed 79 = .ok (.getfield 13, 3) := by decide +kernel
theorem dX6_crossed_82 : decode cX6_crossed 82 = .ok (.iload 4, 2) := by decide +kernel
theorem dX6_crossed_84 : decode cX6_crossed 84 = .ok (.iaload, 1) := by decide +kernel
theorem dX6_crossed_85 : decode cX6_crossed 85 = .ok (.aload_n 0, 1) := by decide +kernel
theorem dX6_crossed_86 : decode cX6_crossed 86 = .ok (.getfield 7, 3) := by decide +kernel
theorem dX6_crossed_89 : decode cX6_crossed 89 = .ok (.iload_n 2, 1) := by decide +kernel
theorem dX6_crossed_90 : decode cX6_crossed 90 = .ok (.iaload, 1) := by decide +kernel
theorem dX6_crossed_91 : decode cX6_crossed 91 = .ok (.aload_n 0, 1) := by decide +kernel
theorem dX6_crossed_92 : decode cX6_crossed 92 = .ok (.getfield 13, 3) := by decide +kernel
theorem dX6_crossed_95 : decode cX6_crossed 95 = .ok (.iload_n 2, 1) := by decide +kernel
theorem dX6_crossed_96 : decode cX6_crossed 96 = .ok (.iaload, 1) := by decide +kernel
theorem dX6_crossed_97 : decode cX6_crossed 97 = .ok (.aload_n 0, 1) := by decide +kernel
theorem dX6_crossed_98 : decode cX6_crossed 98 = .ok (.getfield 7, 3) := by decide +kernel
theorem dX6_crossed_101 : decode cX6_crossed 101 = .ok (.iload 5, 2) := by decide +kernel
theorem dX6_crossed_103 : decode cX6_crossed 103 = .ok (.iaload, 1) := by decide +kernel
theorem dX6_crossed_104 : decode cX6_crossed 104 = .ok (.aload_n 0, 1) := by decide +kernel
theorem dX6_crossed_105 : decode cX6_crossed 105 = .ok (.getfield 13, 3) := by decide +kernel
theorem dX6_crossed_108 : decode cX6_crossed 108 = .ok (.iload 5, 2) := by decide +kernel
theorem dX6_crossed_110 : decode cX6_crossed 110 = .ok (.iaload, 1) := by decide +kernel
theorem dX6_crossed_111 : decode cX6_crossed 111 = .ok (.invokestatic 88, 3) := by decide +kernel
theorem dX6_crossed_114 : decode cX6_crossed 114 = .ok (.ifCond .eq 10, 3) := by decide +kernel
theorem dX6_crossed_117 : decode cX6_crossed 117 = .ok (.aload_n 0, 1) := by decide +kernel
theorem dX6_crossed_118 : decode cX6_crossed 118 = .ok (.iload_n 2, 1) := by decide +kernel
theorem dX6_crossed_119 : decode cX6_crossed 119 = .ok (.putfield 29, 3) := by decide +kernel
theorem dX6_crossed_122 : decode cX6_crossed 122 = .ok (.iload_n 1, 1) := by decide +kernel
theorem dX6_crossed_123 : decode cX6_crossed 123 = .ok (.ireturn, 1) := by decide +kernel
theorem dX6_crossed_124 : decode cX6_crossed 124 = .ok (.iinc 2 1, 3) := by decide +kernel
theorem dX6_crossed_127 : decode cX6_crossed 127 = .ok (.goto (-113), 3) := by decide +kernel
theorem dX6_crossed_130 : decode cX6_crossed 130 = .ok (.iinc 1 1, 3) := by decide +kernel
theorem dX6_crossed_133 : decode cX6_crossed 133 = .ok (.goto (-131), 3) := by decide +kernel
theorem dX6_crossed_136 : decode cX6_crossed 136 = .ok (.iconst (-1), 1) := by decide +kernel
theorem dX6_crossed_137 : decode cX6_crossed 137 = .ok (.ireturn, 1) := by decide +kernel
theorem dX6_polygon_0 : decode cX6_polygon 0 = .ok (.aload_n 0, 1) := by decide +kernel
theorem dX6_polygon_1 : decode cX6_polygon 1 = .ok (.getfield 92, 3) := by decide +kernel
theorem dX6_polygon_4 : decode cX6_polygon 4 = .ok (.bipush 8, 2) := by decide +kernel
theorem dX6_polygon_6 : decode cX6_polygon 6 = .ok (.if_icmp .ne 6, 3) := by decide +kernel
theorem dX6_polygon_9 : decode cX6_polygon 9 = .ok (.bipush (-4), 2) := by decide +kernel
theorem dX6_polygon_11 : decode cX6_polygon 11 = .ok (.ireturn, 1) := by decide +kernel
theorem dX6_polygon_12 : decode cX6_polygon 12 = .ok (.aload_n 0, 1) := by decide +kernel
theorem dX6_polygon_13 : decode cX6_polygon 13 = .ok (.iconst (-1), 1) := by decide +kernel
theorem dX6_polygon_14 : decode cX6_polygon 14 = .ok (.putfield 25, 3) := by decide +kernel
theorem dX6_polygon_17 : decode cX6_polygon 17 = .ok (.aload_n 0, 1) := by decide +kernel
theorem dX6_polygon_18 : decode cX6_polygon 18 = .ok (.iconst (-1), 1) := by decide +kernel
theorem dX6_polygon_19 : decode cX6_polygon 19 = .ok (.putfield 29, 3) := by decide +kernel
theorem dX6_polygon_22 : decode cX6_polygon 22 = .ok (.iconst 0, 1) := by decide +kernel
theorem dX6_polygon_23 : decode cX6_polygon 23 = .ok (.istore_n 1, 1) := by decide +kernel
theorem dX6_polygon_24 : decode cX6_polygon 24 = .ok (.aload_n 0, 1) := by decide +kernel
theorem dX6_polygon_25 : decode cX6_polygon 25 = .ok (.getfield 73, 3) := by decide +kernel
theorem dX6_polygon_28 : decode cX6_polygon 28 = .ok (.iconst 3, 1) := by decide +kernel
theorem dX6_polygon_29 : decode cX6_polygon 29 = .ok (.if_icmp .ge 8, 3) := by decide +kernel
theorem dX6_polygon_32 : decode cX6_polygon 32 = .ok (.iconst 1, 1) := by decide +kernel
theorem dX6_polygon_33 : decode cX6_polygon 33 = .ok (.istore_n 1, 1) := by decide +kernel
theorem dX6_polygon_34 : decode cX6_polygon 34 = .ok (.goto 25, 3) := by decide +kernel
theorem dX6_polygon_37 : decode cX6_polygon 37 = .ok (.aload_n 0, 1) := by decide +kernel
theorem dX6_polygon_38 : decode cX6_polygon 38 = .ok (.aload_n 0, 1) := by decide +kernel
theorem dX6_polygon_39 : decode cX6_polygon 39 = .ok (.invokevirtual 95, 3) := by decide +kernel
theorem dX6_polygon_42 : decode cX6_polygon 42 = .ok (.putfield 25, 3) := by decide +kernel
theorem dX6_polygon_45 : decode cX6_polygon 45 = .ok (.aload_n 0, 1) := by decide +kernel
theorem dX6_polygon_46 : decode cX6_polygon 46 = .ok (.getfield 25, 3) := by decide +kernel
theorem dX6_polygon_49 : decode cX6_polygon 49 = .ok (.iconst (-1), 1) := by decide +kernel
theorem dX6_polygon_50 : decode cX6_polygon 50 = .ok (.if_icmp .ne 7, 3) := by decide +kernel
theorem dX6_polygon_53 : decode cX6_polygon 53 = .ok (.iconst 0, 1) := by decide +kernel
theorem dX6_polygon_54 : decode cX6_polygon 54 = .ok (.goto 4, 3) := by decide +kernel
theorem dX6_polygon_57 : decode cX6_polygon 57 = .ok (.iconst 2, 1) := by decide +kernel
theorem dX6_polygon_58 : decode cX6_polygon 58 = .ok (.istore_n 1, 1) := by decide +kernel
theorem dX6_polygon_59 : decode cX6_polygon 59 = .ok (.iload_n 1, 1) := by decide +kernel
theorem dX6_polygon_60 : decode cX6_polygon 60 = .ok (.ifCond .ne 25, 3) := by decide +kernel
theorem dX6_polygon_63 : decode cX6_polygon 63 = .ok (.aload_n 0, 1) := by decide +kernel
theorem dX6_polygon_64 : decode cX6_polygon 64 = .ok (.aload_n 0, 1) := by decide +kernel
theorem dX6_polygon_65 : decode cX6_polygon 65 = .ok (.invokevirtual 99, 3) := by decide +kernel
theorem dX6_polygon_68 : decode cX6_polygon 68 = .ok (.putfield 25, 3) := by decide +kernel
theorem dX6_polygon_71 : decode cX6_polygon 71 = .ok (.aload_n 0, 1) := by decide +kernel
theorem dX6_polygon_72 : decode cX6_polygon 72 = .ok (.getfield 25, 3) := by decide +kernel
theorem dX6_polygon_75 : decode cX6_polygon 75 = .ok (.iconst (-1), 1) := by decide +kernel
theorem dX6_polygon_76 : decode cX6_polygon 76 = .ok (.if_icmp .ne 7, 3) := by decide +kernel
theorem dX6_polygon_79 : decode cX6_polygon 79 = .ok (.iconst 0, 1) := by decide +kernel
theorem dX6_polygon_80 : decode cX6_polygon 80 = .ok (.goto 4, 3) := by decide +kernel
theorem dX6_polygon_83 : decode cX6_polygon 83 = .ok (.iconst 3, 1) := by decide +kernel
theorem dX6_polygon_84 : decode cX6_polygon 84 = .ok (.istore_n 1, 1) := by decide +kernel
theorem dX6_polygon_85 : decode cX6_polygon 85 = .ok (.iload_n 1, 1) := by decide +kernel
theorem dX6_polygon_86 : decode cX6_polygon 86 = .ok (.ifCond .ne 82, 3) := by decide +kernel
theorem dX6_polygon_89 : decode cX6_polygon 89 = .ok (.aload_n 0, 1) := by decide +kernel
theorem dX6_polygon_90 : decode cX6_polygon 90 = .ok (.getfield 16, 3) := by decide +kernel
theorem dX6_polygon_93 : decode cX6_polygon 93 = .ok (.aload_n 0, 1) := by decide +kernel
theorem dX6_polygon_94 : decode cX6_polygon 94 = .ok (.getfield 92, 3) := by decide +kernel
theorem dX6_polygon_97 : decode cX6_polygon 97 = .ok (.aload_n 0, 1) := by decide +kernel
theorem dX6_polygon_98 : decode cX6_polygon 98 = .ok (.getfield 73, 3) := by decide +kernel
theorem dX6_polygon_101 : decode cX6_polygon 101 = .ok (.iastore, 1) := by decide +kernel
theorem dX6_polygon_102 : decode cX6_polygon 102 = .ok (.iconst 0, 1) := by decide +kernel
theorem dX6_polygon_103 : decode cX6_polygon 103 = .ok (.istore_n 2, 1) := by decide +kernel
theorem dX6_polygon_104 : decode cX6_polygon 104 = .ok (.iload_n 2, 1) := by decide +kernel
theorem dX6_polygon_105 : decode cX6_polygon 105 = .ok (.aload_n 0, 1) := by decide +kernel
theorem dX6_polygon_106 : decode cX6_polygon 106 = .ok (.getfield 73, 3) := by decide +kernel
theorem dX6_polygon_109 : decode cX6_polygon 109 = .ok (.if_icmp .ge 49, 3) := by decide +kernel
theorem dX6_polygon_112 : decode cX6_polygon 112 = .ok (.aload_n 0, 1) := by decide +kernel
theorem dX6_polygon_113 : decode cX6_polygon 113 = .ok (.getfield 19, 3) := by decide +kernel
theorem dX6_polygon_116 : decode cX6_polygon 116 = .ok (.bipush 14, 2) := by decide +kernel
theorem dX6_polygon_118 : decode cX6_polygon 118 = .ok (.aload_n 0, 1) := by decide +kernel
theorem dX6_polygon_119 : decode cX6_polygon 119 = .ok (.getfield 92, 3) := by decide +kernel
theorem dX6_polygon_122 : decode cX6_polygon 122 = .ok (.imul, 1) := by decide +kernel
theorem dX6_polygon_123 : decode cX6_polygon 123 = .ok (.iload_n 2, 1) := by decide +kernel
theorem dX6_polygon_124 : decode cX6_polygon 124 = .ok (.iadd, 1) := by decide +kernel
theorem dX6_polygon_125 : decode cX6_polygon 125 = .ok (.aload_n 0, 1) := by decide +kernel
theorem dX6_polygon_126 : decode cX6_polygon 126 = .ok (.getfield 7, 3) := by decide +kernel
theorem dX6_polygon_129 : decode cX6_polygon 129 = .ok (.iload_n 2, 1) := by decide +kernel
theorem dX6_polygon_130 : decode cX6_polygon 130 = .ok (.iaload, 1) := by decide +kernel
theorem dX6_polygon_131 : decode cX6_polygon 131 = .ok (.iastore, 1) := by decide +kernel
theorem dX6_polygon_132 : decode cX6_polygon 132 = .ok (.aload_n 0, 1) := by decide +kernel
theorem dX6_polygon_133 : decode cX6_polygon 133 = .ok (.getfield 22, 3) := by decide +kernel
theorem dX6_polygon_136 : decode cX6_polygon 136 = .ok (.bipush 14, 2) := by decide +kernel
theorem dX6_polygon_138 : decode cX6_polygon 138 = .ok (.aload_n 0, 1) := by decide +kernel
theorem dX6_polygon_139 : decode cX6_polygon 139 = .ok (.getfield 92, 3) := by decide +kernel
theorem dX6_polygon_142 : decode cX6_polygon 142 = .ok (.imul, 1) := by decide +kernel
theorem dX6_polygon_143 : decode cX6_polygon 143 = .ok (.iload_n 2, 1) := by decide +kernel
theorem dX6_polygon_144 : decode cX6_polygon 144 = .ok (.iadd, 1) := by decide +kernel
theorem dX6_polygon_145 : decode cX6_polygon 145 = .ok (.aload_n 0, 1) := by decide +kernel
theorem dX6_polygon_146 : decode cX6_polygon 146 = .ok (.getfield 13, 3) := by decide +kernel
theorem dX6_polygon_149 : decode cX6_polygon 149 = .ok (.iload_n 2, 1) := by decide +kernel
theorem dX6_polygon_150 : decode cX6_polygon 150 = .ok (.iaload, 1) := by decide +kernel
theorem dX6_polygon_151 : decode cX6_polygon 151 = .ok (.iastore, 1) := by decide +kernel
theorem dX6_polygon_152 : decode cX6_polygon 152 = .ok (.iinc 2 1, 3) := by decide +kernel
theorem dX6_polygon_155 : decode cX6_polygon 155 = .ok (.goto (-51), 3) := by decide +kernel
theorem dX6_polygon_158 : decode cX6_polygon 158 = .ok (.aload_n 0, 1) := by decide +kernel
theorem dX6_polygon_159 : decode cX6_polygon 159 = .ok (.dup, 1) := by decide +kernel
theorem dX6_polygon_160 : decode cX6_polygon 160 = .ok (.getfield 92, 3) := by decide +kernel
theorem dX6_polygon_163 : decode cX6_polygon 163 = .ok (.iconst 1, 1) := by decide +kernel
theorem dX6_polygon_164 : decode cX6_polygon 164 = .ok (.iadd, 1) := by decide +kernel
theorem dX6_polygon_165 : decode cX6_polygon 165 = .ok (.putfield 92, 3) := by decide +kernel
theorem dX6_polygon_168 : decode cX6_polygon 168 = .ok (.aload_n 0, 1) := by decide +kernel
theorem dX6_polygon_169 : decode cX6_polygon 169 = .ok (.iconst 0, 1) := by decide +kernel
theorem dX6_polygon_170 : decode cX6_polygon 170 = .ok (.putfield 73, 3) := by decide +kernel
theorem dX6_polygon_173 : decode cX6_polygon 173 = .ok (.iload_n 1, 1) := by decide +kernel
theorem dX6_polygon_174 : decode cX6_polygon 174 = .ok (.ifCond .ne 12, 3) := by decide +kernel
theorem dX6_polygon_177 : decode cX6_polygon 177 = .ok (.aload_n 0, 1) := by decide +kernel
theorem dX6_polygon_178 : decode cX6_polygon 178 = .ok (.getfield 92, 3) := by decide +kernel
theorem dX6_polygon_181 : decode cX6_polygon 181 = .ok (.iconst 1, 1) := by decide +kernel
theorem dX6_polygon_182 : decode cX6_polygon 182 = .ok (.isub, 1) := by decide +kernel
theorem dX6_polygon_183 : decode cX6_polygon 183 = .ok (.goto 7, 3) := by decide +kernel
theorem dX6_polygon_186 : decode cX6_polygon 186 = .ok (.bipush (-10), 2) := by decide +kernel
theorem dX6_polygon_188 : decode cX6_polygon 188 = .ok (.iload_n 1, 1) := by decide +kernel
theorem dX6_polygon_189 : decode cX6_polygon 189 = .ok (.isub, 1) := by decide +kernel
theorem dX6_polygon_190 : decode cX6_polygon 190 = .ok (.ireturn, 1) := by decide +kernel
theorem dX6_fault_0 : decode cX6_fault 0 = .ok (.iload_n 1, 1) := by decide +kernel
theorem dX6_fault_1 : decode cX6_fault 1 = .ok (.iconst 0, 1) := by decide +kernel
theorem dX6_fault_2 : decode cX6_fault 2 = .ok (.iconst 1, 1) := by decide +kernel
theorem dX6_fault_3 : decode cX6_fault 3 = .ok (.invokestatic 69, 3) := by decide +kernel
theorem dX6_fault_6 : decode cX6_fault 6 = .ok (.ifCond .ne 6, 3) := by decide +kernel
theorem dX6_fault_9 : decode cX6_fault 9 = .ok (.bipush (-3), 2) := by decide +kernel
theorem dX6_fault_11 : decode cX6_fault 11 = .ok (.ireturn, 1) := by decide +kernel
theorem dX6_fault_12 : decode cX6_fault 12 = .ok (.iload_n 1, 1) := by decide +kernel
theorem dX6_fault_13 : decode cX6_fault 13 = .ok (.ifCond .ne 10, 3) := by decide +kernel
theorem dX6_fault_16 : decode cX6_fault 16 = .ok (.aload_n 0, 1) := by decide +kernel
theorem dX6_fault_17 : decode cX6_fault 17 = .ok (.getfield 25, 3) := by decide +kernel
theorem dX6_fault_20 : decode cX6_fault 20 = .ok (.goto 7, 3) := by decide +kernel
theorem dX6_fault_23 : decode cX6_fault 23 = .ok (.aload_n 0, 1) := by decide +kernel
theorem dX6_fault_24 : decode cX6_fault 24 = .ok (.getfield 29, 3) := by decide +kernel
theorem dX6_fault_27 : decode cX6_fault 27 = .ok (.ireturn, 1) := by decide +kernel
theorem dX6_isPolygon_0 : decode cX6_isPolygon 0 = .ok (.iload_n 1, 1) := by decide +kernel
theorem dX6_isPolygon_1 : decode cX6_isPolygon 1 = .ok (.iconst 0, 1) := by decide +kernel
theorem dX6_isPolygon_2 : decode cX6_isPolygon 2 = .ok (.aload_n 0, 1) := by decide +kernel
theorem dX6_isPolygon_3 : decode cX6_isPolygon 3 = .ok (.getfield 92, 3) := by decide +kernel
theorem dX6_isPolygon_6 : decode cX6_isPolygon 6 = .ok (.iconst 1, 1) := by decide +kernel
theorem dX6_isPolygon_7 : decode cX6_isPolygon 7 = .ok (.isub, 1) := by decide +kernel
theorem dX6_isPolygon_8 : decode cX6_isPolygon 8 = .ok (.invokestatic 69, 3) := by decide +kernel
theorem dX6_isPolygon_11 : decode cX6_isPolygon 11 = .ok (.ireturn, 1) := by decide +kernel
theorem dX6_isCorner_0 : decode cX6_isCorner 0 = .ok (.aload_n 0, 1) := by decide +kernel
theorem dX6_isCorner_1 : decode cX6_isCorner 1 = .ok (.iload_n 1, 1) := by decide +kernel
theorem dX6_isCorner_2 : decode cX6_isCorner 2 = .ok (.invokevirtual 102, 3) := by decide +kernel
theorem dX6_isCorner_5 : decode cX6_isCorner 5 = .ok (.ifCond .eq 23, 3) := by decide +kernel
theorem dX6_isCorner_8 : decode cX6_isCorner 8 = .ok (.iload_n 2, 1) := by decide +kernel
theorem dX6_isCorner_9 : decode cX6_isCorner 9 = .ok (.iconst 0, 1) := by decide +kernel
theorem dX6_isCorner_10 : decode cX6_isCorner 10 = .ok (.aload_n 0, 1) := by decide +kernel
theorem dX6_isCorner_11 : decode cX6_isCorner 11 = .ok (.getfield 16, 3) := by decide +kernel
theorem dX6_isCorner_14 : decode cX6_isCorner 14 = .ok (.iload_n 1, 1) := by decide +kernel
theorem dX6_isCorner_15 : decode cX6_isCorner 15 = .ok (.iaload, 1) := by decide +kernel
theorem dX6_isCorner_16 : decode cX6_isCorner 16 = .ok (.iconst 1, 1) := by decide +kernel
theorem dX6_isCorner_17 : decode cX6_isCorner 17 = .ok (.isub, 1) := by decide +kernel
theorem dX6_isCorner_18 : decode cX6_isCorner 18 = .ok (.invokestatic 69, 3) := by decide +kernel
theorem dX6_isCorner_21 : decode cX6_isCorner 21 = .ok (.ifCond .eq 7, 3) := by decide +kernel
theorem dX6_isCorner_24 : decode cX6_isCorner 24 = .ok (.iconst 1, 1) := by decide +kernel
theorem dX6_isCorner_25 : decode cX6_isCorner 25 = .ok (.goto 4, 3) := by decide +kernel
theorem dX6_isCorner_28 : decode cX6_isCorner 28 = .ok (.iconst 0, 1) := by decide +kernel
theorem dX6_isCorner_29 : decode cX6_isCorner 29 = .ok (.ireturn, 1) := by decide +kernel
theorem dX6_drop_0 : decode cX6_drop 0 = .ok (.aload_n 0, 1) := by decide +kernel
theorem dX6_drop_1 : decode cX6_drop 1 = .ok (.getfield 92, 3) := by decide +kernel
theorem dX6_drop_4 : decode cX6_drop 4 = .ok (.ifCond .ne 6, 3) := by decide +kernel
theorem dX6_drop_7 : decode cX6_drop 7 = .ok (.bipush (-2), 2) := by decide +kernel
theorem dX6_drop_9 : decode cX6_drop 9 = .ok (.ireturn, 1) := by decide +kernel
theorem dX6_drop_10 : decode cX6_drop 10 = .ok (.aload_n 0, 1) := by decide +kernel
theorem dX6_drop_11 : decode cX6_drop 11 = .ok (.dup, 1) := by decide +kernel
theorem dX6_drop_12 : decode cX6_drop 12 = .ok (.getfield 92, 3) := by decide +kernel
theorem dX6_drop_15 : decode cX6_drop 15 = .ok (.iconst 1, 1) := by decide +kernel
theorem dX6_drop_16 : decode cX6_drop 16 = .ok (.isub, 1) := by decide +kernel
theorem dX6_drop_17 : decode cX6_drop 17 = .ok (.putfield 92, 3) := by decide +kernel
theorem dX6_drop_20 : decode cX6_drop 20 = .ok (.aload_n 0, 1) := by decide +kernel
theorem dX6_drop_21 : decode cX6_drop 21 = .ok (.getfield 92, 3) := by decide +kernel
theorem dX6_drop_24 : decode cX6_drop 24 = .ok (.ireturn, 1) := by decide +kernel
theorem dX6_count_0 : decode cX6_count 0 = .ok (.iload_n 1, 1) := by decide +kernel
theorem dX6_count_1 : decode cX6_count 1 = .ok (.iconst (-1), 1) := by decide +kernel
theorem dX6_count_2 : decode cX6_count 2 = .ok (.if_icmp .ne 8, 3) := by decide +kernel
theorem dX6_count_5 : decode cX6_count 5 = .ok (.aload_n 0, 1) := by decide +kernel
theorem dX6_count_6 : decode cX6_count 6 = .ok (.getfield 92, 3) := by decide +kernel
theorem dX6_count_9 : decode cX6_count 9 = .ok (.ireturn, 1) := by decide +kernel
theorem dX6_count_10 : decode cX6_count 10 = .ok (.aload_n 0, 1) := by decide +kernel
theorem dX6_count_11 : decode cX6_count 11 = .ok (.iload_n 1, 1) := by decide +kernel
theorem dX6_count_12 : decode cX6_count 12 = .ok (.invokevirtual 102, 3) := by decide +kernel
theorem dX6_count_15 : decode cX6_count 15 = .ok (.ifCond .eq 12, 3) := by decide +kernel
theorem dX6_count_18 : decode cX6_count 18 = .ok (.aload_n 0, 1) := by decide +kernel
theorem dX6_count_19 : decode cX6_count 19 = .ok (.getfield 16, 3) := by decide +kernel
theorem dX6_count_22 : decode cX6_count 22 = .ok (.iload_n 1, 1) := by decide +kernel
theorem dX6_count_23 : decode cX6_count 23 = .ok (.iaload, 1) := by decide +kernel
theorem dX6_count_24 : decode cX6_count 24 = .ok (.goto 5, 3) := by decide +kernel
theorem dX6_count_27 : decode cX6_count 27 = .ok (.bipush (-2), 2) := by decide +kernel
theorem dX6_count_29 : decode cX6_count 29 = .ok (.ireturn, 1) := by decide +kernel
theorem dX6_xOf_0 : decode cX6_xOf 0 = .ok (.aload_n 0, 1) := by decide +kernel
theorem dX6_xOf_1 : decode cX6_xOf 1 = .ok (.getfield 19, 3) := by decide +kernel
theorem dX6_xOf_4 : decode cX6_xOf 4 = .ok (.bipush 14, 2) := by decide +kernel
theorem dX6_xOf_6 : decode cX6_xOf 6 = .ok (.iload_n 1, 1) := by decide +kernel
theorem dX6_xOf_7 : decode cX6_xOf 7 = .ok (.imul, 1) := by decide +kernel
theorem dX6_xOf_8 : decode cX6_xOf 8 = .ok (.iload_n 2, 1) := by decide +kernel
theorem dX6_xOf_9 : decode cX6_xOf 9 = .ok (.aload_n 0, 1) := by decide +kernel
theorem dX6_xOf_10 : decode cX6_xOf 10 = .ok (.getfield 16, 3) := by decide +kernel
theorem dX6_xOf_13 : decode cX6_xOf 13 = .ok (.iload_n 1, 1) := by decide +kernel
theorem dX6_xOf_14 : decode cX6_xOf 14 = .ok (.iaload, 1) := by decide +kernel
theorem dX6_xOf_15 : decode cX6_xOf 15 = .ok (.irem, 1) := by decide +kernel
theorem dX6_xOf_16 : decode cX6_xOf 16 = .ok (.iadd, 1) := by decide +kernel
theorem dX6_xOf_17 : decode cX6_xOf 17 = .ok (.iaload, 1) := by decide +kernel
theorem dX6_xOf_18 : decode cX6_xOf 18 = .ok (.ireturn, 1) := by decide +kernel
theorem dX6_yOf_0 : decode cX6_yOf 0 = .ok (.aload_n 0, 1) := by decide +kernel
theorem dX6_yOf_1 : decode cX6_yOf 1 = .ok (.getfield 22, 3) := by decide +kernel
theorem dX6_yOf_4 : decode cX6_yOf 4 = .ok (.bipush 14, 2) := by decide +kernel
theorem dX6_yOf_6 : decode cX6_yOf 6 = .ok (.iload_n 1, 1) := by decide +kernel
theorem dX6_yOf_7 : decode cX6_yOf 7 = .ok (.imul, 1) := by decide +kernel
theorem dX6_yOf_8 : decode cX6_yOf 8 = .ok (.iload_n 2, 1) := by decide +kernel
theorem dX6_yOf_9 : decode cX6_yOf 9 = .ok (.aload_n 0, 1) := by decide +kernel
theorem dX6_yOf_10 : decode cX6_yOf 10 = .ok (.getfield 16, 3) := by decide +kernel
theorem dX6_yOf_13 : decode cX6_yOf 13 = .ok (.iload_n 1, 1) := by decide +kernel
theorem dX6_yOf_14 : decode cX6_yOf 14 = .ok (.iaload, 1) := by decide +kernel
theorem dX6_yOf_15 : decode cX6_yOf 15 = .ok (.irem, 1) := by decide +kernel
theorem dX6_yOf_16 : decode cX6_yOf 16 = .ok (.iadd, 1) := by decide +kernel
theorem dX6_yOf_17 : decode cX6_yOf 17 = .ok (.iaload, 1) := by decide +kernel
theorem dX6_yOf_18 : decode cX6_yOf 18 = .ok (.ireturn, 1) := by decide +kernel
theorem dX6_at_0 : decode cX6_at 0 = .ok (.aload_n 0, 1) := by decide +kernel
theorem dX6_at_1 : decode cX6_at 1 = .ok (.iload_n 1, 1) := by decide +kernel
theorem dX6_at_2 : decode cX6_at 2 = .ok (.iload_n 2, 1) := by decide +kernel
theorem dX6_at_3 : decode cX6_at 3 = .ok (.invokevirtual 106, 3) := by decide +kernel
theorem dX6_at_6 : decode cX6_at 6 = .ok (.ifCond .ne 6, 3) := by decide +kernel
theorem dX6_at_9 : decode cX6_at 9 = .ok (.bipush (-2), 2) := by decide +kernel
theorem dX6_at_11 : decode cX6_at 11 = .ok (.ireturn, 1) := by decide +kernel
theorem dX6_at_12 : decode cX6_at 12 = .ok (.iload_n 3, 1) := by decide +kernel
theorem dX6_at_13 : decode cX6_at 13 = .ok (.iconst 0, 1) := by decide +kernel
theorem dX6_at_14 : decode cX6_at 14 = .ok (.iconst 1, 1) := by decide +kernel
theorem dX6_at_15 : decode cX6_at 15 = .ok (.invokestatic 69, 3) := by decide +kernel
theorem dX6_at_18 : decode cX6_at 18 = .ok (.ifCond .ne 6, 3) := by decide +kernel
theorem dX6_at_21 : decode cX6_at 21 = .ok (.bipush (-3), 2) := by decide +kernel
theorem dX6_at_23 : decode cX6_at 23 = .ok (.ireturn, 1) := by decide +kernel
theorem dX6_at_24 : decode cX6_at 24 = .ok (.iload_n 3, 1) := by decide +kernel
theorem dX6_at_25 : decode cX6_at 25 = .ok (.ifCond .ne 12, 3) := by decide +kernel
theorem dX6_at_28 : decode cX6_at 28 = .ok (.aload_n 0, 1) := by decide +kernel
theorem dX6_at_29 : decode cX6_at 29 = .ok (.iload_n 1, 1) := by decide +kernel
theorem dX6_at_30 : decode cX6_at 30 = .ok (.iload_n 2, 1) := by decide +kernel
theorem dX6_at_31 : decode cX6_at 31 = .ok (.invokevirtual 110, 3) := by decide +kernel
theorem dX6_at_34 : decode cX6_at 34 = .ok (.goto 9, 3) := by decide +kernel
theorem dX6_at_37 : decode cX6_at 37 = .ok (.aload_n 0, 1) := by decide +kernel
theorem dX6_at_38 : decode cX6_at 38 = .ok (.iload_n 1, 1) := by decide +kernel
theorem dX6_at_39 : decode cX6_at 39 = .ok (.iload_n 2, 1) := by decide +kernel
theorem dX6_at_40 : decode cX6_at 40 = .ok (.invokevirtual 114, 3) := by decide +kernel
theorem dX6_at_43 : decode cX6_at 43 = .ok (.ireturn, 1) := by decide +kernel
theorem dX6_twice_0 : decode cX6_twice 0 = .ok (.iconst 0, 1) := by decide +kernel
theorem dX6_twice_1 : decode cX6_twice 1 = .ok (.istore_n 2, 1) := by decide +kernel
theorem dX6_twice_2 : decode cX6_twice 2 = .ok (.iconst 1, 1) := by decide +kernel
theorem dX6_twice_3 : decode cX6_twice 3 = .ok (.istore_n 3, 1) := by decide +kernel
theorem dX6_twice_4 : decode cX6_twice 4 = .ok (.iload_n 3, 1) := by decide +kernel
theorem dX6_twice_5 : decode cX6_twice 5 = .ok (.iconst 1, 1) := by decide +kernel
theorem dX6_twice_6 : decode cX6_twice 6 = .ok (.iadd, 1) := by decide +kernel
theorem dX6_twice_7 : decode cX6_twice 7 = .ok (.aload_n 0, 1) := by decide +kernel
theorem dX6_twice_8 : decode cX6_twice 8 = .ok (.getfield 16, 3) := by decide +kernel
theorem dX6_twice_11 : decode cX6_twice 11 = .ok (.iload_n 1, 1) := by decide +kernel
theorem dX6_twice_12 : decode cX6_twice 12 = .ok (.iaload, 1) := by decide +kernel
theorem dX6_twice_13 : decode cX6_twice 13 = .ok (.if_icmp .ge 55, 3) := by decide +kernel
theorem dX6_twice_16 : decode cX6_twice 16 = .ok (.iload_n 2, 1) := by decide +kernel
theorem dX6_twice_17 : decode cX6_twice 17 = .ok (.aload_n 0, 1) := by decide +kernel
theorem dX6_twice_18 : decode cX6_twice 18 = .ok (.iload_n 1, 1) := by decide +kernel
theorem dX6_twice_19 : decode cX6_twice 19 = .ok (.iconst 0, 1) := by decide +kernel
theorem dX6_twice_20 : decode cX6_twice 20 = .ok (.invokevirtual 110, 3) := by decide +kernel
theorem dX6_twice_23 : decode cX6_twice 23 = .ok (.aload_n 0, 1) := by decide +kernel
theorem dX6_twice_24 : decode cX6_twice 24 = .ok (.iload_n 1, 1) := by decide +kernel
theorem dX6_twice_25 : decode cX6_twice 25 = .ok (.iconst 0, 1) := by decide +kernel
theorem dX6_twice_26 : decode cX6_twice 26 = .ok (.invokevirtual 114, 3) := by decide +kernel
theorem dX6_twice_29 : decode cX6_twice 29 = .ok (.aload_n 0, 1) := by decide +kernel
theorem dX6_twice_30 : decode cX6_twice 30 = .ok (.iload_n 1, 1) := by decide +kernel
theorem dX6_twice_31 : decode cX6_twice 31 = .ok (.iload_n 3, 1) := by decide +kernel
theorem dX6_twice_32 : decode cX6_twice 32 = .ok (.invokevirtual 110, 3) := by decide +kernel
theorem dX6_twice_35 : decode cX6_twice 35 = .ok (.aload_n 0, 1) := by decide +kernel
theorem dX6_twice_36 : decode cX6_twice 36 = .ok (.iload_n 1, 1) := by decide +kernel
theorem dX6_twice_37 : decode cX6_twice 37 = .ok (.iload_n 3, 1) := by decide +kernel
theorem dX6_twice_38 : decode cX6_twice 38 = .ok (.invokevirtual 114, 3) := by decide +kernel
theorem dX6_twice_41 : decode cX6_twice 41 = .ok (.aload_n 0, 1) := by decide +kernel
theorem dX6_twice_42 : decode cX6_twice 42 = .ok (.iload_n 1, 1) := by decide +kernel
theorem dX6_twice_43 : decode cX6_twice 43 = .ok (.iload_n 3, 1) := by decide +kernel
theorem dX6_twice_44 : decode cX6_twice 44 = .ok (.iconst 1, 1) := by decide +kernel
theorem dX6_twice_45 : decode cX6_twice 45 = .ok (.iadd, 1) := by decide +kernel
theorem dX6_twice_46 : decode cX6_twice 46 = .ok (.invokevirtual 110, 3) := by decide +kernel
theorem dX6_twice_49 : decode cX6_twice 49 = .ok (.aload_n 0, 1) := by decide +kernel
theorem dX6_twice_50 : decode cX6_twice 50 = .ok (.iload_n 1, 1) := by decide +kernel
theorem dX6_twice_51 : decode cX6_twice 51 = .ok (.iload_n 3, 1) := by decide +kernel
theorem dX6_twice_52 : decode cX6_twice 52 = .ok (.iconst 1, 1) := by decide +kernel
theorem dX6_twice_53 : decode cX6_twice 53 = .ok (.iadd, 1) := by decide +kernel
theorem dX6_twice_54 : decode cX6_twice 54 = .ok (.invokevirtual 114, 3) := by decide +kernel
theorem dX6_twice_57 : decode cX6_twice 57 = .ok (.invokestatic 76, 3) := by decide +kernel
theorem dX6_twice_60 : decode cX6_twice 60 = .ok (.iadd, 1) := by decide +kernel
theorem dX6_twice_61 : decode cX6_twice 61 = .ok (.istore_n 2, 1) := by decide +kernel
theorem dX6_twice_62 : decode cX6_twice 62 = .ok (.iinc 3 1, 3) := by decide +kernel
theorem dX6_twice_65 : decode cX6_twice 65 = .ok (.goto (-61), 3) := by decide +kernel
theorem dX6_twice_68 : decode cX6_twice 68 = .ok (.iload_n 2, 1) := by decide +kernel
theorem dX6_twice_69 : decode cX6_twice 69 = .ok (.ireturn, 1) := by decide +kernel
theorem dX6_area_0 : decode cX6_area 0 = .ok (.aload_n 0, 1) := by decide +kernel
theorem dX6_area_1 : decode cX6_area 1 = .ok (.iload_n 1, 1) := by decide +kernel
theorem dX6_area_2 : decode cX6_area 2 = .ok (.invokevirtual 102, 3) := by decide +kernel
theorem dX6_area_5 : decode cX6_area 5 = .ok (.ifCond .eq 11, 3) := by decide +kernel
theorem dX6_area_8 : decode cX6_area 8 = .ok (.aload_n 0, 1) := by decide +kernel
theorem dX6_area_9 : decode cX6_area 9 = .ok (.iload_n 1, 1) := by decide +kernel
theorem dX6_area_10 : decode cX6_area 10 = .ok (.invokevirtual 117, 3) := by decide +kernel
theorem dX6_area_13 : decode cX6_area 13 = .ok (.goto 4, 3) := by decide +kernel
theorem dX6_area_16 : decode cX6_area 16 = .ok (.iconst 0, 1) := by decide +kernel
theorem dX6_area_17 : decode cX6_area 17 = .ok (.ireturn, 1) := by decide +kernel
theorem dX6_common_0 : decode cX6_common 0 = .ok (.lload_n 0, 1) := by decide +kernel
theorem dX6_common_1 : decode cX6_common 1 = .ok (.lconst 0, 1) := by decide +kernel
theorem dX6_common_2 : decode cX6_common 2 = .ok (.lcmp, 1) := by decide +kernel
theorem dX6_common_3 : decode cX6_common 3 = .ok (.ifCond .ge 9, 3) := by decide +kernel
theorem dX6_common_6 : decode cX6_common 6 = .ok (.lconst 0, 1) := by decide +kernel
theorem dX6_common_7 : decode cX6_common 7 = .ok (.lload_n 0, 1) := by decide +kernel
theorem dX6_common_8 : decode cX6_common 8 = .ok (.lsub, 1) := by decide +kernel
theorem dX6_common_9 : decode cX6_common 9 = .ok (.goto 4, 3) := by decide +kernel
theorem dX6_common_12 : decode cX6_common 12 = .ok (.lload_n 0, 1) := by decide +kernel
theorem dX6_common_13 : decode cX6_common 13 = .ok (.lstore 4, 2) := by decide +kernel
theorem dX6_common_15 : decode cX6_common 15 = .ok (.lload_n 2, 1) := by decide +kernel
theorem dX6_common_16 : decode cX6_common 16 = .ok (.lconst 0, 1) := by decide +kernel
theorem dX6_common_17 : decode cX6_common 17 = .ok (.lcmp, 1) := by decide +kernel
theorem dX6_common_18 : decode cX6_common 18 = .ok (.ifCond .ge 9, 3) := by decide +kernel
theorem dX6_common_21 : decode cX6_common 21 = .ok (.lconst 0, 1) := by decide +kernel
theorem dX6_common_22 : decode cX6_common 22 = .ok (.lload_n 2, 1) := by decide +kernel
theorem dX6_common_23 : decode cX6_common 23 = .ok (.lsub, 1) := by decide +kernel
theorem dX6_common_24 : decode cX6_common 24 = .ok (.goto 4, 3) := by decide +kernel
theorem dX6_common_27 : decode cX6_common 27 = .ok (.lload_n 2, 1) := by decide +kernel
theorem dX6_common_28 : decode cX6_common 28 = .ok (.lstore 6, 2) := by decide +kernel
theorem dX6_common_30 : decode cX6_common 30 = .ok (.lload 6, 2) := by decide +kernel
theorem dX6_common_32 : decode cX6_common 32 = .ok (.lconst 0, 1) := by decide +kernel
theorem dX6_common_33 : decode cX6_common 33 = .ok (.lcmp, 1) := by decide +kernel
theorem dX6_common_34 : decode cX6_common 34 = .ok (.ifCond .eq 21, 3) := by decide +kernel
theorem dX6_common_37 : decode cX6_common 37 = .ok (.lload 4, 2) := by decide +kernel
theorem dX6_common_39 : decode cX6_common 39 = .ok (.lload 6, 2) := by decide +kernel
theorem dX6_common_41 : decode cX6_common 41 = .ok (.lrem, 1) := by decide +kernel
theorem dX6_common_42 : decode cX6_common 42 = .ok (.lstore 8, 2) := by decide +kernel
theorem dX6_common_44 : decode cX6_common 44 = .ok (.lload 6, 2) := by decide +kernel
theorem dX6_common_46 : decode cX6_common 46 = .ok (.lstore 4, 2) := by decide +kernel
theorem dX6_common_48 : decode cX6_common 48 = .ok (.lload 8, 2) := by decide +kernel
theorem dX6_common_50 : decode cX6_common 50 = .ok (.lstore 6, 2) := by decide +kernel
theorem dX6_common_52 : decode cX6_common 52 = .ok (.goto (-22), 3) := by decide +kernel
theorem dX6_common_55 : decode cX6_common 55 = .ok (.lload 4, 2) := by decide +kernel
theorem dX6_common_57 : decode cX6_common 57 = .ok (.lreturn, 1) := by decide +kernel
theorem dX6_centroid_0 : decode cX6_centroid 0 = .ok (.aload_n 0, 1) := by decide +kernel
theorem dX6_centroid_1 : decode cX6_centroid 1 = .ok (.iload_n 1, 1) := by decide +kernel
theorem dX6_centroid_2 : decode cX6_centroid 2 = .ok (.invokevirtual 102, 3) := by decide +kernel
theorem dX6_centroid_5 : decode cX6_centroid 5 = .ok (.ifCond .eq 21, 3) := by decide +kernel
theorem dX6_centroid_8 : decode cX6_centroid 8 = .ok (.iload_n 2, 1) := by decide +kernel
theorem dX6_centroid_9 : decode cX6_centroid 9 = .ok (.iconst 0, 1) := by decide +kernel
theorem dX6_centroid_10 : decode cX6_centroid 10 = .ok (.iconst 1, 1) := by decide +kernel
theorem dX6_centroid_11 : decode cX6_centroid 11 = .ok (.invokestatic 69, 3) := by decide +kernel
theorem dX6_centroid_14 : decode cX6_centroid 14 = .ok (.ifCond .eq 12, 3) := by decide +kernel
theorem dX6_centroid_17 : decode cX6_centroid 17 = .ok (.iload_n 3, 1) := by decide +kernel
theorem dX6_centroid_18 : decode cX6_centroid 18 = .ok (.iconst 0, 1) := by decide +kernel
theorem dX6_centroid_19 : decode cX6_centroid 19 = .ok (.iconst 1, 1) := by decide +kernel
theorem dX6_centroid_20 : decode cX6_centroid 20 = .ok (.invokestatic 69, 3) := by decide +kernel
theorem dX6_centroid_23 : decode cX6_centroid 23 = .ok (.ifCond .ne 5, 3) := by decide +kernel
theorem dX6_centroid_26 : decode cX6_centroid 26 = .ok (.lconst 0, 1) := by decide +kernel
theorem dX6_centroid_27 : decode cX6_centroid 27 = .ok (.lreturn, 1) := by decide +kernel
theorem dX6_centroid_28 : decode cX6_centroid 28 = .ok (.lconst 0, 1) := by decide +kernel
theorem dX6_centroid_29 : decode cX6_centroid 29 = .ok (.lstore 4, 2) := by decide +kernel
theorem dX6_centroid_31 : decode cX6_centroid 31 = .ok (.iconst 1, 1) := by decide +kernel
theorem dX6_centroid_32 : decode cX6_centroid 32 = .ok (.istore 6, 2) := by decide +kernel
theorem dX6_centroid_34 : decode cX6_centroid 34 = .ok (.iload 6, 2) := by decide +kernel
theorem dX6_centroid_36 : decode cX6_centroid 36 = .ok (.iconst 1, 1) := by decide +kernel
theorem dX6_centroid_37 : decode cX6_centroid 37 = .ok (.iadd, 1) := by decide +kernel
theorem dX6_centroid_38 : decode cX6_centroid 38 = .ok (.aload_n 0, 1) := by decide +kernel
theorem dX6_centroid_39 : decode cX6_centroid 39 = .ok (.getfield 16, 3) := by decide +kernel
theorem dX6_centroid_42 : decode cX6_centroid 42 = .ok (.iload_n 1, 1) := by decide +kernel
theorem dX6_centroid_43 : decode cX6_centroid 43 = .ok (.iaload, 1) := by decide +kernel
theorem dX6_centroid_44 : decode cX6_centroid 44 = .ok (.if_icmp .ge 128, 3) := by decide +kernel
theorem dX6_centroid_47 : decode cX6_centroid 47 = .ok (.aload_n 0, 1) := by decide +kernel
theorem dX6_centroid_48 : decode cX6_centroid 48 = .ok (.iload_n 1, 1) := by decide +kernel
theorem dX6_centroid_49 : decode cX6_centroid 49 = .ok (.iconst 0, 1) := by decide +kernel
theorem dX6_centroid_50 : decode cX6_centroid 50 = .ok (.invokevirtual 110, 3) := by decide +kernel
theorem dX6_centroid_53 : decode cX6_centroid 53 = .ok (.aload_n 0, 1) := by decide +kernel
theorem dX6_centroid_54 : decode cX6_centroid 54 = .ok (.iload_n 1, 1) := by decide +kernel
theorem dX6_centroid_55 : decode cX6_centroid 55 = .ok (.iconst 0, 1) := by decide +kernel
theorem dX6_centroid_56 : decode cX6_centroid 56 = .ok (.invokevirtual 114, 3) := by decide +kernel
theorem dX6_centroid_59 : decode cX6_centroid 59 = .ok (.aload_n 0, 1) := by decide +kernel
theorem dX6_centroid_60 : decode cX6_centroid 60 = .ok (.iload_n 1, 1) := by decide +kernel
theorem dX6_centroid_61 : decode cX6_centroid 61 = .ok (.iload 6, 2) := by decide +kernel
theorem dX6_centroid_63 : decode cX6_centroid 63 = .ok (.invokevirtual 110, 3) := by decide +kernel
theorem dX6_centroid_66 : decode cX6_centroid 66 = .ok (.aload_n 0, 1) := by decide +kernel
theorem dX6_centroid_67 : decode cX6_centroid 67 = .ok (.iload_n 1, 1) := by decide +kernel
theorem dX6_centroid_68 : decode cX6_centroid 68 = .ok (.iload 6, 2) := by decide +kernel
theorem dX6_centroid_70 : decode cX6_centroid 70 = .ok (.invokevirtual 114, 3) := by decide +kernel
theorem dX6_centroid_73 : decode cX6_centroid 73 = .ok (.aload_n 0, 1) := by decide +kernel
theorem dX6_centroid_74 : decode cX6_centroid 74 = .ok (.iload_n 1, 1) := by decide +kernel
theorem dX6_centroid_75 : decode cX6_centroid 75 = .ok (.iload 6, 2) := by decide +kernel
theorem dX6_centroid_77 : decode cX6_centroid 77 = .ok (.iconst 1, 1) := by decide +kernel
theorem dX6_centroid_78 : decode cX6_centroid 78 = .ok (.iadd, 1) := by decide +kernel
theorem dX6_centroid_79 : decode cX6_centroid 79 = .ok (.invokevirtual 110, 3) := by decide +kernel
theorem dX6_centroid_82 : decode cX6_centroid 82 = .ok (.aload_n 0, 1) := by decide +kernel
theorem dX6_centroid_83 : decode cX6_centroid 83 = .ok (.iload_n 1, 1) := by decide +kernel
theorem dX6_centroid_84 : decode cX6_centroid 84 = .ok (.iload 6, 2) := by decide +kernel
theorem dX6_centroid_86 : decode cX6_centroid 86 = .ok (.iconst 1, 1) := by decide +kernel
theorem dX6_centroid_87 : decode cX6_centroid 87 = .ok (.iadd, 1) := by decide +kernel
theorem dX6_centroid_88 : decode cX6_centroid 88 = .ok (.invokevirtual 114, 3) := by decide +kernel
theorem dX6_centroid_91 : decode cX6_centroid 91 = .ok (.invokestatic 76, 3) := by decide +kernel
theorem dX6_centroid_94 : decode cX6_centroid 94 = .ok (.i2l, 1) := by decide +kernel
theorem dX6_centroid_95 : decode cX6_centroid 95 = .ok (.lstore 7, 2) := by decide +kernel
theorem dX6_centroid_97 : decode cX6_centroid 97 = .ok (.iload_n 2, 1) := by decide +kernel
theorem dX6_centroid_98 : decode cX6_centroid 98 = .ok (.ifCond .ne 31, 3) := by decide +kernel
theorem dX6_centroid_101 : decode cX6_centroid 101 = .ok (.aload_n 0, 1) := by decide +kernel
theorem dX6_centroid_102 : decode cX6_centroid 102 = .ok (.iload_n 1, 1) := by decide +kernel
theorem dX6_centroid_103 : decode cX6_centroid 103 = .ok (.iconst 0, 1) := by decide +kernel
theorem dX6_centroid_104 : decode cX6_centroid 104 = .ok (.invokevirtual 110, 3) := by decide +kernel
theorem dX6_centroid_107 : decode cX6_centroid 107 = .ok (.aload_n 0, 1) := by decide +kernel
theorem dX6_centroid_108 : decode cX6_centroid 108 = .ok (.iload_n 1, 1) := by decide +kernel
theorem dX6_centroid_109 : decode cX6_centroid 109 = .ok (.iload 6, 2) := by decide +kernel
theorem dX6_centroid_111 : decode cX6_centroid 111 = .ok (.invokevirtual 110, 3) := by decide +kernel
theorem dX6_centroid_114 : decode cX6_centroid 114 = .ok (.iadd, 1) := by decide +kernel
theorem dX6_centroid_115 : decode cX6_centroid 115 = .ok (.aload_n 0, 1) := by decide +kernel
theorem dX6_centroid_116 : decode cX6_centroid 116 = .ok (.iload_n 1, 1) := by decide +kernel
theorem dX6_centroid_117 : decode cX6_centroid 117 = .ok (.iload 6, 2) := by decide +kernel
theorem dX6_centroid_119 : decode cX6_centroid 119 = .ok (.iconst 1, 1) := by decide +kernel
theorem dX6_centroid_120 : decode cX6_centroid 120 = .ok (.iadd, 1) := by decide +kernel
theorem dX6_centroid_121 : decode cX6_centroid 121 = .ok (.invokevirtual 110, 3) := by decide +kernel
theorem dX6_centroid_124 : decode cX6_centroid 124 = .ok (.iadd, 1) := by decide +kernel
theorem dX6_centroid_125 : decode cX6_centroid 125 = .ok (.i2l, 1) := by decide +kernel
theorem dX6_centroid_126 : decode cX6_centroid 126 = .ok (.goto 28, 3) := by decide +kernel
theorem dX6_centroid_129 : decode cX6_centroid 129 = .ok (.aload_n 0, 1) := by decide +kernel
theorem dX6_centroid_130 : decode cX6_centroid 130 = .ok (.iload_n 1, 1) := by decide +kernel
theorem dX6_centroid_131 : decode cX6_centroid 131 = .ok (.iconst 0, 1) := by decide +kernel
theorem dX6_centroid_132 : decode cX6_centroid 132 = .ok (.invokevirtual 114, 3) := by decide +kernel
theorem dX6_centroid_135 : decode cX6_centroid 135 = .ok (.aload_n 0, 1) := by decide +kernel
theorem dX6_centroid_136 : decode cX6_centroid 136 = .ok (.iload_n 1, 1) := by decide +kernel
theorem dX6_centroid_137 : decode cX6_centroid 137 = .ok (.iload 6, 2) := by decide +kernel
theorem dX6_centroid_139 : decode cX6_centroid 139 = .ok (.invokevirtual 114, 3) := by decide +kernel
theorem dX6_centroid_142 : decode cX6_centroid 142 = .ok (.iadd, 1) := by decide +kernel
theorem dX6_centroid_143 : decode cX6_centroid 143 = .ok (.aload_n 0, 1) := by decide +kernel
theorem dX6_centroid_144 : decode cX6_centroid 144 = .ok (.iload_n 1, 1) := by decide +kernel
theorem dX6_centroid_145 : decode cX6_centroid 145 = .ok (.iload 6, 2) := by decide +kernel
theorem dX6_centroid_147 : decode cX6_centroid 147 = .ok (.iconst 1, 1) := by decide +kernel
theorem dX6_centroid_148 : decode cX6_centroid 148 = .ok (.iadd, 1) := by decide +kernel
theorem dX6_centroid_149 : decode cX6_centroid 149 = .ok (.invokevirtual 114, 3) := by decide +kernel
theorem dX6_centroid_152 : decode cX6_centroid 152 = .ok (.iadd, 1) := by decide +kernel
theorem dX6_centroid_153 : decode cX6_centroid 153 = .ok (.i2l, 1) := by decide +kernel
theorem dX6_centroid_154 : decode cX6_centroid 154 = .ok (.lstore 9, 2) := by decide +kernel
theorem dX6_centroid_156 : decode cX6_centroid 156 = .ok (.lload 4, 2) := by decide +kernel
theorem dX6_centroid_158 : decode cX6_centroid 158 = .ok (.lload 7, 2) := by decide +kernel
theorem dX6_centroid_160 : decode cX6_centroid 160 = .ok (.lload 9, 2) := by decide +kernel
theorem dX6_centroid_162 : decode cX6_centroid 162 = .ok (.lmul, 1) := by decide +kernel
theorem dX6_centroid_163 : decode cX6_centroid 163 = .ok (.ladd, 1) := by decide +kernel
theorem dX6_centroid_164 : decode cX6_centroid 164 = .ok (.lstore 4, 2) := by decide +kernel
theorem dX6_centroid_166 : decode cX6_centroid 166 = .ok (.iinc 6 1, 3) := by decide +kernel
theorem dX6_centroid_169 : decode cX6_centroid 169 = .ok (.goto (-135), 3) := by decide +kernel
theorem dX6_centroid_172 : decode cX6_centroid 172 = .ok (.ldc2_w 120, 3) := by decide +kernel
theorem dX6_centroid_175 : decode cX6_centroid 175 = .ok (.aload_n 0, 1) := by decide +kernel
theorem dX6_centroid_176 : decode cX6_centroid 176 = .ok (.iload_n 1, 1) := by decide +kernel
theorem dX6_centroid_177 : decode cX6_centroid 177 = .ok (.invokevirtual 117, 3) := by decide +kernel
theorem dX6_centroid_180 : decode cX6_centroid 180 = .ok (.i2l, 1) := by decide +kernel
theorem dX6_centroid_181 : decode cX6_centroid 181 = .ok (.lmul, 1) := by decide +kernel
theorem dX6_centroid_182 : decode cX6_centroid 182 = .ok (.lstore 6, 2) := by decide +kernel
theorem dX6_centroid_184 : decode cX6_centroid 184 = .ok (.lload 6, 2) := by decide +kernel
theorem dX6_centroid_186 : decode cX6_centroid 186 = .ok (.lconst 0, 1) := by decide +kernel
theorem dX6_centroid_187 : decode cX6_centroid 187 = .ok (.lcmp, 1) := by decide +kernel
theorem dX6_centroid_188 : decode cX6_centroid 188 = .ok (.ifCond .ge 15, 3) := by decide +kernel
theorem dX6_centroid_191 : decode cX6_centroid 191 = .ok (.lconst 0, 1) := by decide +kernel
theorem dX6_centroid_192 : decode cX6_centroid 192 = .ok (.lload 6, 2) := by decide +kernel
theorem dX6_centroid_194 : decode cX6_centroid 194 = .ok (.lsub, 1) := by decide +kernel
theorem dX6_centroid_195 : decode cX6_centroid 195 = .ok (.lstore 6, 2) := by decide +kernel
theorem dX6_centroid_197 : decode cX6_centroid 197 = .ok (.lconst 0, 1) := by decide +kernel
theorem dX6_centroid_198 : decode cX6_centroid 198 = .ok (.lload 4, 2) := by decide +kernel
theorem dX6_centroid_200 : decode cX6_centroid 200 = .ok (.lsub, 1) := by decide +kernel
theorem dX6_centroid_201 : decode cX6_centroid 201 = .ok (.lstore 4, 2) := by decide +kernel
theorem dX6_centroid_203 : decode cX6_centroid 203 = .ok (.lload 4, 2) := by decide +kernel
theorem dX6_centroid_205 : decode cX6_centroid 205 = .ok (.lload 6, 2) := by decide +kernel
theorem dX6_centroid_207 : decode cX6_centroid 207 = .ok (.invokestatic 122, 3) := by decide +kernel
theorem dX6_centroid_210 : decode cX6_centroid 210 = .ok (.lstore 8, 2) := by decide +kernel
theorem dX6_centroid_212 : decode cX6_centroid 212 = .ok (.iload_n 3, 1) := by decide +kernel
theorem dX6_centroid_213 : decode cX6_centroid 213 = .ok (.ifCond .ne 11, 3) := by decide +kernel
theorem dX6_centroid_216 : decode cX6_centroid 216 = .ok (.lload 4, 2) := by decide +kernel
theorem dX6_centroid_218 : decode cX6_centroid 218 = .ok (.lload 8, 2) := by decide +kernel
theorem dX6_centroid_220 : decode cX6_centroid 220 = .ok (.ldiv, 1) := by decide +kernel
theorem dX6_centroid_221 : decode cX6_centroid 221 = .ok (.goto 8, 3) := by decide +kernel
theorem dX6_centroid_224 : decode cX6_centroid 224 = .ok (.lload 6, 2) := by decide +kernel
theorem dX6_centroid_226 : decode cX6_centroid 226 = .ok (.lload 8, 2) := by decide +kernel
theorem dX6_centroid_228 : decode cX6_centroid 228 = .ok (.ldiv, 1) := by decide +kernel
theorem dX6_centroid_229 : decode cX6_centroid 229 = .ok (.lreturn, 1) := by decide +kernel
theorem dX6_points_0 : decode cX6_points 0 = .ok (.aload_n 0, 1) := by decide +kernel
theorem dX6_points_1 : decode cX6_points 1 = .ok (.iload_n 1, 1) := by decide +kernel
theorem dX6_points_2 : decode cX6_points 2 = .ok (.invokevirtual 102, 3) := by decide +kernel
theorem dX6_points_5 : decode cX6_points 5 = .ok (.ifCond .ne 6, 3) := by decide +kernel
theorem dX6_points_8 : decode cX6_points 8 = .ok (.bipush (-2), 2) := by decide +kernel
theorem dX6_points_10 : decode cX6_points 10 = .ok (.ireturn, 1) := by decide +kernel
theorem dX6_points_11 : decode cX6_points 11 = .ok (.iload_n 2, 1) := by decide +kernel
theorem dX6_points_12 : decode cX6_points 12 = .ok (.iconst 0, 1) := by decide +kernel
theorem dX6_points_13 : decode cX6_points 13 = .ok (.iconst 1, 1) := by decide +kernel
theorem dX6_points_14 : decode cX6_points 14 = .ok (.invokestatic 69, 3) := by decide +kernel
theorem dX6_points_17 : decode cX6_points 17 = .ok (.ifCond .ne 6, 3) := by decide +kernel
theorem dX6_points_20 : decode cX6_points 20 = .ok (.bipush (-3), 2) := by decide +kernel
theorem dX6_points_22 : decode cX6_points 22 = .ok (.ireturn, 1) := by decide +kernel
theorem dX6_points_23 : decode cX6_points 23 = .ok (.iconst 0, 1) := by decide +kernel
theorem dX6_points_24 : decode cX6_points 24 = .ok (.istore_n 3, 1) := by decide +kernel
theorem dX6_points_25 : decode cX6_points 25 = .ok (.iconst 0, 1) := by decide +kernel
theorem dX6_points_26 : decode cX6_points 26 = .ok (.istore 4, 2) := by decide +kernel
theorem dX6_points_28 : decode cX6_points 28 = .ok (.iload 4, 2) := by decide +kernel
theorem dX6_points_30 : decode cX6_points 30 = .ok (.aload_n 0, 1) := by decide +kernel
theorem dX6_points_31 : decode cX6_points 31 = .ok (.getfield 16, 3) := by decide +kernel
theorem dX6_points_34 : decode cX6_points 34 = .ok (.iload_n 1, 1) := by decide +kernel
theorem dX6_points_35 : decode cX6_points 35 = .ok (.iaload, 1) := by decide +kernel
theorem dX6_points_36 : decode cX6_points 36 = .ok (.if_icmp .ge 52, 3) := by decide +kernel
theorem dX6_points_39 : decode cX6_points 39 = .ok (.iload_n 3, 1) := by decide +kernel
theorem dX6_points_40 : decode cX6_points 40 = .ok (.aload_n 0, 1) := by decide +kernel
theorem dX6_points_41 : decode cX6_points 41 = .ok (.iload_n 1, 1) := by decide +kernel
theorem dX6_points_42 : decode cX6_points 42 = .ok (.iload 4, 2) := by decide +kernel
theorem dX6_points_44 : decode cX6_points 44 = .ok (.iconst 1, 1) := by decide +kernel
theorem dX6_points_45 : decode cX6_points 45 = .ok (.iadd, 1) := by decide +kernel
theorem dX6_points_46 : decode cX6_points 46 = .ok (.invokevirtual 110, 3) := by decide +kernel
theorem dX6_points_49 : decode cX6_points 49 = .ok (.aload_n 0, 1) := by decide +kernel
theorem dX6_points_50 : decode cX6_points 50 = .ok (.iload_n 1, 1) := by decide +kernel
theorem dX6_points_51 : decode cX6_points 51 = .ok (.iload 4, 2) := by decide +kernel
theorem dX6_points_53 : decode cX6_points 53 = .ok (.invokevirtual 110, 3) := by decide +kernel
theorem dX6_points_56 : decode cX6_points 56 = .ok (.isub, 1) := by decide +kernel
theorem dX6_points_57 : decode cX6_points 57 = .ok (.i2l, 1) := by decide +kernel
theorem dX6_points_58 : decode cX6_points 58 = .ok (.aload_n 0, 1) := by decide +kernel
theorem dX6_points_59 : decode cX6_points 59 = .ok (.iload_n 1, 1) := by decide +kernel
theorem dX6_points_60 : decode cX6_points 60 = .ok (.iload 4, 2) := by decide +kernel
theorem dX6_points_62 : decode cX6_points 62 = .ok (.iconst 1, 1) := by decide +kernel
theorem dX6_points_63 : decode cX6_points 63 = .ok (.iadd, 1) := by decide +kernel
theorem dX6_points_64 : decode cX6_points 64 = .ok (.invokevirtual 114, 3) := by decide +kernel
theorem dX6_points_67 : decode cX6_points 67 = .ok (.aload_n 0, 1) := by decide +kernel
theorem dX6_points_68 : decode cX6_points 68 = .ok (.iload_n 1, 1) := by decide +kernel
theorem dX6_points_69 : decode cX6_points 69 = .ok (.iload 4, 2) := by decide +kernel
theorem dX6_points_71 : decode cX6_points 71 = .ok (.invokevirtual 114, 3) := by decide +kernel
theorem dX6_points_74 : decode cX6_points 74 = .ok (.isub, 1) := by decide +kernel
theorem dX6_points_75 : decode cX6_points 75 = .ok (.i2l, 1) := by decide +kernel
theorem dX6_points_76 : decode cX6_points 76 = .ok (.invokestatic 122, 3) := by decide +kernel
theorem dX6_points_79 : decode cX6_points 79 = .ok (.l2i, 1) := by decide +kernel
theorem dX6_points_80 : decode cX6_points 80 = .ok (.iadd, 1) := by decide +kernel
theorem dX6_points_81 : decode cX6_points 81 = .ok (.istore_n 3, 1) := by decide +kernel
theorem dX6_points_82 : decode cX6_points 82 = .ok (.iinc 4 1, 3) := by decide +kernel
theorem dX6_points_85 : decode cX6_points 85 = .ok (.goto (-57), 3) := by decide +kernel
theorem dX6_points_88 : decode cX6_points 88 = .ok (.aload_n 0, 1) := by decide +kernel
theorem dX6_points_89 : decode cX6_points 89 = .ok (.iload_n 1, 1) := by decide +kernel
theorem dX6_points_90 : decode cX6_points 90 = .ok (.invokevirtual 117, 3) := by decide +kernel
theorem dX6_points_93 : decode cX6_points 93 = .ok (.istore 4, 2) := by decide +kernel
theorem dX6_points_95 : decode cX6_points 95 = .ok (.iload 4, 2) := by decide +kernel
theorem dX6_points_97 : decode cX6_points 97 = .ok (.ifCond .ge 10, 3) := by decide +kernel
theorem dX6_points_100 : decode cX6_points 100 = .ok (.iconst 0, 1) := by decide +kernel
theorem dX6_points_101 : decode cX6_points 101 = .ok (.iload 4, 2) := by decide +kernel
theorem dX6_points_103 : decode cX6_points 103 = .ok (.isub, 1) := by decide +kernel
theorem dX6_points_104 : decode cX6_points 104 = .ok (.goto 5, 3) := by decide +kernel
theorem dX6_points_107 : decode cX6_points 107 = .ok (.iload 4, 2) := by decide +kernel
theorem dX6_points_109 : decode cX6_points 109 = .ok (.istore 4, 2) := by decide +kernel
theorem dX6_points_111 : decode cX6_points 111 = .ok (.iload_n 2, 1) := by decide +kernel
theorem dX6_points_112 : decode cX6_points 112 = .ok (.ifCond .ne 7, 3) := by decide +kernel
theorem dX6_points_115 : decode cX6_points 115 = .ok (.iload_n 3, 1) := by decide +kernel
theorem dX6_points_116 : decode cX6_points 116 = .ok (.goto 11, 3) := by decide +kernel
theorem dX6_points_119 : decode cX6_points 119 = .ok (.iload 4, 2) := by decide +kernel
theorem dX6_points_121 : decode cX6_points 121 = .ok (.iload_n 3, 1) := by decide +kernel
theorem dX6_points_122 : decode cX6_points 122 = .ok (.isub, 1) := by decide +kernel
theorem dX6_points_123 : decode cX6_points 123 = .ok (.iconst 2, 1) := by decide +kernel
theorem dX6_points_124 : decode cX6_points 124 = .ok (.iadd, 1) := by decide +kernel
theorem dX6_points_125 : decode cX6_points 125 = .ok (.iconst 2, 1) := by decide +kernel
theorem dX6_points_126 : decode cX6_points 126 = .ok (.idiv, 1) := by decide +kernel
theorem dX6_points_127 : decode cX6_points 127 = .ok (.ireturn, 1) := by decide +kernel
theorem dX6_lies_0 : decode cX6_lies 0 = .ok (.iconst 0, 1) := by decide +kernel
theorem dX6_lies_1 : decode cX6_lies 1 = .ok (.istore 5, 2) := by decide +kernel
theorem dX6_lies_3 : decode cX6_lies 3 = .ok (.iconst 0, 1) := by decide +kernel
theorem dX6_lies_4 : decode cX6_lies 4 = .ok (.istore 6, 2) := by decide +kernel
theorem dX6_lies_6 : decode cX6_lies 6 = .ok (.iload 6, 2) := by decide +kernel
theorem dX6_lies_8 : decode cX6_lies 8 = .ok (.aload_n 0, 1) := by decide +kernel
theorem dX6_lies_9 : decode cX6_lies 9 = .ok (.getfield 16, 3) := by decide +kernel
theorem dX6_lies_12 : decode cX6_lies 12 = .ok (.iload_n 1, 1) := by decide +kernel
theorem dX6_lies_13 : decode cX6_lies 13 = .ok (.iaload, 1) := by decide +kernel
theorem dX6_lies_14 : decode cX6_lies 14 = .ok (.if_icmp .ge 161, 3) := by decide +kernel
theorem dX6_lies_17 : decode cX6_lies 17 = .ok (.iload_n 2, 1) := by decide +kernel
theorem dX6_lies_18 : decode cX6_lies 18 = .ok (.aload_n 0, 1) := by decide +kernel
theorem dX6_lies_19 : decode cX6_lies 19 = .ok (.iload_n 1, 1) := by decide +kernel
theorem dX6_lies_20 : decode cX6_lies 20 = .ok (.iload 6, 2) := by decide +kernel
theorem dX6_lies_22 : decode cX6_lies 22 = .ok (.invokevirtual 110, 3) := by decide +kernel
theorem dX6_lies_25 : decode cX6_lies 25 = .ok (.imul, 1) := by decide +kernel
theorem dX6_lies_26 : decode cX6_lies 26 = .ok (.istore 7, 2) := by decide +kernel
theorem dX6_lies_28 : decode cX6_lies 28 = .ok (.iload_n 2, 1) := by decide +kernel
theorem dX6_lies_29 : decode cX6_lies 29 = .ok (.aload_n 0, 1) := by decide +kernel
theorem dX6_lies_30 : decode cX6_lies 30 = .ok (.iload_n 1, 1) := by decide +kernel
theorem dX6_lies_31 : decode cX6_lies 31 = .ok (.iload 6, 2) := by decide +kernel
theorem dX6_lies_33 : decode cX6_lies 33 = .ok (.invokevirtual 114, 3) := by decide +kernel
theorem dX6_lies_36 : decode cX6_lies 36 = .ok (.imul, 1) := by decide +kernel
theorem dX6_lies_37 : decode cX6_lies 37 = .ok (.istore 8, 2) := by decide +kernel
theorem dX6_lies_39 : decode cX6_lies 39 = .ok (.iload_n 2, 1) := by decide +kernel
theorem dX6_lies_40 : decode cX6_lies 40 = .ok (.aload_n 0, 1) := by decide +kernel
theorem dX6_lies_41 : decode cX6_lies 41 = .ok (.iload_n 1, 1) := by decide +kernel
theorem dX6_lies_42 : decode cX6_lies 42 = .ok (.iload 6, 2) := by decide +kernel
theorem dX6_lies_44 : decode cX6_lies 44 = .ok (.iconst 1, 1) := by decide +kernel
theorem dX6_lies_45 : decode cX6_lies 45 = .ok (.iadd, 1) := by decide +kernel
theorem dX6_lies_46 : decode cX6_lies 46 = .ok (.invokevirtual 110, 3) := by decide +kernel
theorem dX6_lies_49 : decode cX6_lies 49 = .ok (.imul, 1) := by decide +kernel
theorem dX6_lies_50 : decode cX6_lies 50 = .ok (.istore 9, 2) := by decide +kernel
theorem dX6_lies_52 : decode cX6_lies 52 = .ok (.iload_n 2, 1) := by decide +kernel
theorem dX6_lies_53 : decode cX6_lies 53 = .ok (.aload_n 0, 1) := by decide +kernel
theorem dX6_lies_54 : decode cX6_lies 54 = .ok (.iload_n 1, 1) := by decide +kernel
theorem dX6_lies_55 : decode cX6_lies 55 = .ok (.iload 6, 2) := by decide +kernel
theorem dX6_lies_57 : decode cX6_lies 57 = .ok (.iconst 1, 1) := by decide +kernel
theorem dX6_lies_58 : decode cX6_lies 58 = .ok (.iadd, 1) := by decide +kernel
theorem dX6_lies_59 : decode cX6_lies 59 = .ok (.invokevirtual 114, 3) := by decide +kernel
theorem dX6_lies_62 : decode cX6_lies 62 = .ok (.imul, 1) := by decide +kernel
theorem dX6_lies_63 : decode cX6_lies 63 = .ok (.istore 10, 2) := by decide +kernel
theorem dX6_lies_65 : decode cX6_lies 65 = .ok (.iload 7, 2) := by decide +kernel
theorem dX6_lies_67 : decode cX6_lies 67 = .ok (.iload 8, 2) := by decide +kernel
theorem dX6_lies_69 : decode cX6_lies 69 = .ok (.iload 9, 2) := by decide +kernel
theorem dX6_lies_71 : decode cX6_lies 71 = .ok (.iload 10, 2) := by decide +kernel
theorem dX6_lies_73 : decode cX6_lies 73 = .ok (.iload_n 3, 1) := by decide +kernel
theorem dX6_lies_74 : decode cX6_lies 74 = .ok (.iload 4, 2) := by decide +kernel
theorem dX6_lies_76 : decode cX6_lies 76 = .ok (.invokestatic 84, 3) := by decide +kernel
theorem dX6_lies_79 : decode cX6_lies 79 = .ok (.ifCond .eq 5, 3) := by decide +kernel
theorem dX6_lies_82 : decode cX6_lies 82 = .ok (.iconst 1, 1) := by decide +kernel
theorem dX6_lies_83 : decode cX6_lies 83 = .ok (.ireturn, 1) := by decide +kernel
theorem dX6_lies_84 : decode cX6_lies 84 = .ok (.iload 8, 2) := by decide +kernel
theorem dX6_lies_86 : decode cX6_lies 86 = .ok (.iload 4, 2) := by decide +kernel
theorem dX6_lies_88 : decode cX6_lies 88 = .ok (.if_icmp .le 7, 3) := by decide +kernel
theorem dX6_lies_91 : decode cX6_lies 91 = .ok (.iconst 1, 1) := by decide +kernel
theorem dX6_lies_92 : decode cX6_lies 92 = .ok (.goto 4, 3) := by decide +kernel
theorem dX6_lies_95 : decode cX6_lies 95 = .ok (.iconst 0, 1) := by decide +kernel
theorem dX6_lies_96 : decode cX6_lies 96 = .ok (.iload 10, 2) := by decide +kernel
theorem dX6_lies_98 : decode cX6_lies 98 = .ok (.iload 4, 2) := by decide +kernel
theorem dX6_lies_100 : decode cX6_lies 100 = .ok (.if_icmp .le 7, 3) := by decide +kernel
theorem dX6_lies_103 : decode cX6_lies 103 = .ok (.iconst 1, 1) := by decide +kernel
theorem dX6_lies_104 : decode cX6_lies 104 = .ok (.goto 4, 3) := by decide +kernel
theorem dX6_lies_107 : decode cX6_lies 107 = .ok (.iconst 0, 1) := by decide +kernel
theorem dX6_lies_108 : decode cX6_lies 108 = .ok (.if_icmp .eq 61, 3) := by decide +kernel
theorem dX6_lies_111 : decode cX6_lies 111 = .ok (.iload 7, 2) := by decide +kernel
theorem dX6_lies_113 : decode cX6_lies 113 = .ok (.iload 8, 2) := by decide +kernel
theorem dX6_lies_115 : decode cX6_lies 115 = .ok (.iload 9, 2) := by decide +kernel
theorem dX6_lies_117 : decode cX6_lies 117 = .ok (.iload 10, 2) := by decide +kernel
theorem dX6_lies_119 : decode cX6_lies 119 = .ok (.iload_n 3, 1) := by decide +kernel
theorem dX6_lies_120 : decode cX6_lies 120 = .ok (.iload 4, 2) := by decide +kernel
theorem dX6_lies_122 : decode cX6_lies 122 = .ok (.invokestatic 76, 3) := by decide +kernel
theorem dX6_lies_125 : decode cX6_lies 125 = .ok (.istore 11, 2) := by decide +kernel
theorem dX6_lies_127 : decode cX6_lies 127 = .ok (.iload 10, 2) := by decide +kernel
theorem dX6_lies_129 : decode cX6_lies 129 = .ok (.iload 8, 2) := by decide +kernel
theorem dX6_lies_131 : decode cX6_lies 131 = .ok (.if_icmp .le 7, 3) := by decide +kernel
theorem dX6_lies_134 : decode cX6_lies 134 = .ok (.iconst 1, 1) := by decide +kernel
theorem dX6_lies_135 : decode cX6_lies 135 = .ok (.goto 4, 3) := by decide +kernel
theorem dX6_lies_138 : decode cX6_lies 138 = .ok (.iconst 0, 1) := by decide +kernel
theorem dX6_lies_139 : decode cX6_lies 139 = .ok (.iload 11, 2) := by decide +kernel
theorem dX6_lies_141 : decode cX6_lies 141 = .ok (.ifCond .le 7, 3) := by decide +kernel
theorem dX6_lies_144 : decode cX6_lies 144 = .ok (.iconst 1, 1) := by decide +kernel
theorem dX6_lies_145 : decode cX6_lies 145 = .ok (.goto 4, 3) := by decide +kernel
theorem dX6_lies_148 : decode cX6_lies 148 = .ok (.iconst 0, 1) := by decide +kernel
theorem dX6_lies_149 : decode cX6_lies 149 = .ok (.if_icmp .ne 16, 3) := by decide +kernel
theorem dX6_lies_152 : decode cX6_lies 152 = .ok (.iload 5, 2) := by decide +kernel
theorem dX6_lies_154 : decode cX6_lies 154 = .ok (.ifCond .ne 7, 3) := by decide +kernel
theorem dX6_lies_157 : decode cX6_lies 157 = .ok (.iconst 1, 1) := by decide +kernel
theorem dX6_lies_158 : decode cX6_lies 158 = .ok (.goto 9, 3) := by decide +kernel
theorem dX6_lies_161 : decode cX6_lies 161 = .ok (.iconst 0, 1) := by decide +kernel
theorem dX6_lies_162 : decode cX6_lies 162 = .ok (.goto 5, 3) := by decide +kernel
theorem dX6_lies_165 : decode cX6_lies 165 = .ok (.iload 5, 2) := by decide +kernel
theorem dX6_lies_167 : decode cX6_lies 167 = .ok (.istore 5, 2) := by decide +kernel
theorem dX6_lies_169 : decode cX6_lies 169 = .ok (.iinc 6 1, 3) := by decide +kernel
theorem dX6_lies_172 : decode cX6_lies 172 = .ok (.goto (-166), 3) := by decide +kernel
theorem dX6_lies_175 : decode cX6_lies 175 = .ok (.iload 5, 2) := by decide +kernel
theorem dX6_lies_177 : decode cX6_lies 177 = .ok (.ifCond .eq 7, 3) := by decide +kernel
theorem dX6_lies_180 : decode cX6_lies 180 = .ok (.iconst 2, 1) := by decide +kernel
theorem dX6_lies_181 : decode cX6_lies 181 = .ok (.goto 4, 3) := by decide +kernel
theorem dX6_lies_184 : decode cX6_lies 184 = .ok (.iconst 0, 1) := by decide +kernel
theorem dX6_lies_185 : decode cX6_lies 185 = .ok (.ireturn, 1) := by decide +kernel
theorem dX6_in_0 : decode cX6_in 0 = .ok (.aload_n 0, 1) := by decide +kernel
theorem dX6_in_1 : decode cX6_in 1 = .ok (.iload_n 1, 1) := by decide +kernel
theorem dX6_in_2 : decode cX6_in 2 = .ok (.invokevirtual 102, 3) := by decide +kernel
theorem dX6_in_5 : decode cX6_in 5 = .ok (.ifCond .ne 6, 3) := by decide +kernel
theorem dX6_in_8 : decode cX6_in 8 = .ok (.bipush (-2), 2) := by decide +kernel
theorem dX6_in_10 : decode cX6_in 10 = .ok (.ireturn, 1) := by decide +kernel
theorem dX6_in_11 : decode cX6_in 11 = .ok (.iload_n 2, 1) := by decide +kernel
theorem dX6_in_12 : decode cX6_in 12 = .ok (.sipush (-3000), 3) := by decide +kernel
theorem dX6_in_15 : decode cX6_in 15 = .ok (.sipush 3000, 3) := by decide +kernel
theorem dX6_in_18 : decode cX6_in 18 = .ok (.invokestatic 69, 3) := by decide +kernel
theorem dX6_in_21 : decode cX6_in 21 = .ok (.ifCond .eq 16, 3) := by decide +kernel
theorem dX6_in_24 : decode cX6_in 24 = .ok (.iload_n 3, 1) := by decide +kernel
theorem dX6_in_25 : decode cX6_in 25 = .ok (.sipush (-3000), 3) := by decide +kernel
theorem dX6_in_28 : decode cX6_in 28 = .ok (.sipush 3000, 3) := by decide +kernel
theorem dX6_in_31 : decode cX6_in 31 = .ok (.invokestatic 69, 3) := by decide +kernel
theorem dX6_in_34 : decode cX6_in 34 = .ok (.ifCond .ne 6, 3) := by decide +kernel
theorem dX6_in_37 : decode cX6_in 37 = .ok (.bipush (-3), 2) := by decide +kernel
theorem dX6_in_39 : decode cX6_in 39 = .ok (.ireturn, 1) := by decide +kernel
theorem dX6_in_40 : decode cX6_in 40 = .ok (.aload_n 0, 1) := by decide +kernel
theorem dX6_in_41 : decode cX6_in 41 = .ok (.iload_n 1, 1) := by decide +kernel
theorem dX6_in_42 : decode cX6_in 42 = .ok (.iconst 1, 1) := by decide +kernel
theorem dX6_in_43 : decode cX6_in 43 = .ok (.iload_n 2, 1) := by decide +kernel
theorem dX6_in_44 : decode cX6_in 44 = .ok (.iload_n 3, 1) := by decide +kernel
theorem dX6_in_45 : decode cX6_in 45 = .ok (.invokevirtual 126, 3) := by decide +kernel
theorem dX6_in_48 : decode cX6_in 48 = .ok (.ireturn, 1) := by decide +kernel
theorem dX6_isNear_0 : decode cX6_isNear 0 = .ok (.iload_n 2, 1) := by decide +kernel
theorem dX6_isNear_1 : decode cX6_isNear 1 = .ok (.iconst 1, 1) := by decide +kernel
theorem dX6_isNear_2 : decode cX6_isNear 2 = .ok (.iadd, 1) := by decide +kernel
theorem dX6_isNear_3 : decode cX6_isNear 3 = .ok (.aload_n 0, 1) := by decide +kernel
theorem dX6_isNear_4 : decode cX6_isNear 4 = .ok (.getfield 16, 3) := by decide +kernel
theorem dX6_isNear_7 : decode cX6_isNear 7 = .ok (.iload_n 1, 1) := by decide +kernel
theorem dX6_isNear_8 : decode cX6_isNear 8 = .ok (.iaload, 1) := by decide +kernel
theorem dX6_isNear_9 : decode cX6_isNear 9 = .ok (.irem, 1) := by decide +kernel
theorem dX6_isNear_10 : decode cX6_isNear 10 = .ok (.iload_n 3, 1) := by decide +kernel
theorem dX6_isNear_11 : decode cX6_isNear 11 = .ok (.if_icmp .eq 17, 3) := by decide +kernel
theorem dX6_isNear_14 : decode cX6_isNear 14 = .ok (.iload_n 3, 1) := by decide +kernel
theorem dX6_isNear_15 : decode cX6_isNear 15 = .ok (.iconst 1, 1) := by decide +kernel
theorem dX6_isNear_16 : decode cX6_isNear 16 = .ok (.iadd, 1) := by decide +kernel
theorem dX6_isNear_17 : decode cX6_isNear 17 = .ok (.aload_n 0, 1) := by decide +kernel
theorem dX6_isNear_18 : decode cX6_isNear 18 = .ok (.getfield 16, 3) := by decide +kernel
theorem dX6_isNear_21 : decode cX6_isNear 21 = .ok (.iload_n 1, 1) := by decide +kernel
theorem dX6_isNear_22 : decode cX6_isNear 22 = .ok (.iaload, 1) := by decide +kernel
theorem dX6_isNear_23 : decode cX6_isNear 23 = .ok (.irem, 1) := by decide +kernel
theorem dX6_isNear_24 : decode cX6_isNear 24 = .ok (.iload_n 2, 1) := by decide +kernel
theorem dX6_isNear_25 : decode cX6_isNear 25 = .ok (.if_icmp .ne 7, 3) := by decide +kernel
theorem dX6_isNear_28 : decode cX6_isNear 28 = .ok (.iconst 1, 1) := by decide +kernel
theorem dX6_isNear_29 : decode cX6_isNear 29 = .ok (.goto 4, 3) := by decide +kernel
theorem dX6_isNear_32 : decode cX6_isNear 32 = .ok (.iconst 0, 1) := by decide +kernel
theorem dX6_isNear_33 : decode cX6_isNear 33 = .ok (.ireturn, 1) := by decide +kernel
theorem dX6_isSeen_0 : decode cX6_isSeen 0 = .ok (.aload_n 0, 1) := by decide +kernel
theorem dX6_isSeen_1 : decode cX6_isSeen 1 = .ok (.getfield 16, 3) := by decide +kernel
theorem dX6_isSeen_4 : decode cX6_isSeen 4 = .ok (.iload_n 1, 1) := by decide +kernel
theorem dX6_isSeen_5 : decode cX6_isSeen 5 = .ok (.iaload, 1) := by decide +kernel
theorem dX6_isSeen_6 : decode cX6_isSeen 6 = .ok (.istore 4, 2) := by decide +kernel
theorem dX6_isSeen_8 : decode cX6_isSeen 8 = .ok (.iconst 0, 1) := by decide +kernel
theorem dX6_isSeen_9 : decode cX6_isSeen 9 = .ok (.istore 5, 2) := by decide +kernel
theorem dX6_isSeen_11 : decode cX6_isSeen 11 = .ok (.iload 5, 2) := by decide +kernel
theorem dX6_isSeen_13 : decode cX6_isSeen 13 = .ok (.iload 4, 2) := by decide +kernel
theorem dX6_isSeen_15 : decode cX6_isSeen 15 = .ok (.if_icmp .ge 172, 3) := by decide +kernel
theorem dX6_isSeen_18 : decode cX6_isSeen 18 = .ok (.iload 5, 2) := by decide +kernel
theorem dX6_isSeen_20 : decode cX6_isSeen 20 = .ok (.iconst 1, 1) := by decide +kernel
theorem dX6_isSeen_21 : decode cX6_isSeen 21 = .ok (.iadd, 1) := by decide +kernel
theorem dX6_isSeen_22 : decode cX6_isSeen 22 = .ok (.iload 4, 2) := by decide +kernel
theorem dX6_isSeen_24 : decode cX6_isSeen 24 = .ok (.irem, 1) := by decide +kernel
theorem dX6_isSeen_25 : decode cX6_isSeen 25 = .ok (.istore 6, 2) := by decide +kernel
theorem dX6_isSeen_27 : decode cX6_isSeen 27 = .ok (.iload 5, 2) := by decide +kernel
theorem dX6_isSeen_29 : decode cX6_isSeen 29 = .ok (.iload_n 2, 1) := by decide +kernel
theorem dX6_isSeen_30 : decode cX6_isSeen 30 = .ok (.if_icmp .eq 25, 3) := by decide +kernel
theorem dX6_isSeen_33 : decode cX6_isSeen 33 = .ok (.iload 5, 2) := by decide +kernel
theorem dX6_isSeen_35 : decode cX6_isSeen 35 = .ok (.iload_n 3, 1) := by decide +kernel
theorem dX6_isSeen_36 : decode cX6_isSeen 36 = .ok (.if_icmp .eq 19, 3) := by decide +kernel
theorem dX6_isSeen_39 : decode cX6_isSeen 39 = .ok (.iload 6, 2) := by decide +kernel
theorem dX6_isSeen_41 : decode cX6_isSeen 41 = .ok (.iload_n 2, 1) := by decide +kernel
theorem dX6_isSeen_42 : decode cX6_isSeen 42 = .ok (.if_icmp .eq 13, 3) := by decide +kernel
theorem dX6_isSeen_45 : decode cX6_isSeen 45 = .ok (.iload 6, 2) := by decide +kernel
theorem dX6_isSeen_47 : decode cX6_isSeen 47 = .ok (.iload_n 3, 1) := by decide +kernel
theorem dX6_isSeen_48 : decode cX6_isSeen 48 = .ok (.if_icmp .eq 7, 3) := by decide +kernel
theorem dX6_isSeen_51 : decode cX6_isSeen 51 = .ok (.iconst 1, 1) := by decide +kernel
theorem dX6_isSeen_52 : decode cX6_isSeen 52 = .ok (.goto 4, 3) := by decide +kernel
theorem dX6_isSeen_55 : decode cX6_isSeen 55 = .ok (.iconst 0, 1) := by decide +kernel
theorem dX6_isSeen_56 : decode cX6_isSeen 56 = .ok (.istore 7, 2) := by decide +kernel
theorem dX6_isSeen_58 : decode cX6_isSeen 58 = .ok (.iload 7, 2) := by decide +kernel
theorem dX6_isSeen_60 : decode cX6_isSeen 60 = .ok (.ifCond .eq 63, 3) := by decide +kernel
theorem dX6_isSeen_63 : decode cX6_isSeen 63 = .ok (.aload_n 0, 1) := by decide +kernel
theorem dX6_isSeen_64 : decode cX6_isSeen 64 = .ok (.iload_n 1, 1) := by decide +kernel
theorem dX6_isSeen_65 : decode cX6_isSeen 65 = .ok (.iload_n 2, 1) := by decide +kernel
theorem dX6_isSeen_66 : decode cX6_isSeen 66 = .ok (.invokevirtual 110, 3) := by decide +kernel
theorem dX6_isSeen_69 : decode cX6_isSeen 69 = .ok (.aload_n 0, 1) := by decide +kernel
theorem dX6_isSeen_70 : decode cX6_isSeen 70 = .ok (.iload_n 1, 1) := by decide +kernel
theorem dX6_isSeen_71 : decode cX6_isSeen 71 = .ok (.iload_n 2, 1) := by decide +kernel
theorem dX6_isSeen_72 : decode cX6_isSeen 72 = .ok (.invokevirtual 114, 3) := by decide +kernel
theorem dX6_isSeen_75 : decode cX6_isSeen 75 = .ok (.aload_n 0, 1) := by decide +kernel
theorem dX6_isSeen_76 : decode cX6_isSeen 76 = .ok (.iload_n 1, 1) := by decide +kernel
theorem dX6_isSeen_77 : decode cX6_isSeen 77 = .ok (.iload_n 3, 1) := by decide +kernel
theorem dX6_isSeen_78 : decode cX6_isSeen 78 = .ok (.invokevirtual 110, 3) := by decide +kernel
theorem dX6_isSeen_81 : decode cX6_isSeen 81 = .ok (.aload_n 0, 1) := by decide +kernel
theorem dX6_isSeen_82 : decode cX6_isSeen 82 = .ok (.iload_n 1, 1) := by decide +kernel
theorem dX6_isSeen_83 : decode cX6_isSeen 83 = .ok (.iload_n 3, 1) := by decide +kernel
theorem dX6_isSeen_84 : decode cX6_isSeen 84 = .ok (.invokevirtual 114, 3) := by decide +kernel
theorem dX6_isSeen_87 : decode cX6_isSeen 87 = .ok (.aload_n 0, 1) := by decide +kernel
theorem dX6_isSeen_88 : decode cX6_isSeen 88 = .ok (.iload_n 1, 1) := by decide +kernel
theorem dX6_isSeen_89 : decode cX6_isSeen 89 = .ok (.iload 5, 2) := by decide +kernel
theorem dX6_isSeen_91 : decode cX6_isSeen 91 = .ok (.invokevirtual 110, 3) := by decide +kernel
theorem dX6_isSeen_94 : decode cX6_isSeen 94 = .ok (.aload_n 0, 1) := by decide +kernel
theorem dX6_isSeen_95 : decode cX6_isSeen 95 = .ok (.iload_n 1, 1) := by decide +kernel
theorem dX6_isSeen_96 : decode cX6_isSeen 96 = .ok (.iload 5, 2) := by decide +kernel
theorem dX6_isSeen_98 : decode cX6_isSeen 98 = .ok (.invokevirtual 114, 3) := by decide +kernel
theorem dX6_isSeen_101 : decode cX6_isSeen 101 = .ok (.aload_n 0, 1) := by decide +kernel
theorem dX6_isSeen_102 : decode cX6_isSeen 102 = .ok (.iload_n 1, 1) := by decide +kernel
theorem dX6_isSeen_103 : decode cX6_isSeen 103 = .ok (.iload 6, 2) := by decide +kernel
theorem dX6_isSeen_105 : decode cX6_isSeen 105 = .ok (.invokevirtual 110, 3) := by decide +kernel
theorem dX6_isSeen_108 : decode cX6_isSeen 108 = .ok (.aload_n 0, 1) := by decide +kernel
theorem dX6_isSeen_109 : decode cX6_isSeen 109 = .ok (.iload_n 1, 1) := by decide +kernel
theorem dX6_isSeen_110 : decode cX6_isSeen 110 = .ok (.iload 6, 2) := by decide +kernel
theorem dX6_isSeen_112 : decode cX6_isSeen 112 = .ok (.invokevirtual 114, 3) := by decide +kernel
theorem dX6_isSeen_115 : decode cX6_isSeen 115 = .ok (.invokestatic 88, 3) := by decide +kernel
theorem dX6_isSeen_118 : decode cX6_isSeen 118 = .ok (.ifCond .eq 5, 3) := by decide +kernel
theorem dX6_isSeen_121 : decode cX6_isSeen 121 = .ok (.iconst 0, 1) := by decide +kernel
theorem dX6_isSeen_122 : decode cX6_isSeen 122 = .ok (.ireturn, 1) := by decide +kernel
theorem dX6_isSeen_123 : decode cX6_isSeen 123 = .ok (.iload 5, 2) := by decide +kernel
theorem dX6_isSeen_125 : decode cX6_isSeen 125 = .ok (.iload_n 2, 1) := by decide +kernel
theorem dX6_isSeen_126 : decode cX6_isSeen 126 = .ok (.if_icmp .eq 55, 3) := by decide +kernel
theorem dX6_isSeen_129 : decode cX6_isSeen 129 = .ok (.iload 5, 2) := by decide +kernel
theorem dX6_isSeen_131 : decode cX6_isSeen 131 = .ok (.iload_n 3, 1) := by decide +kernel
theorem dX6_isSeen_132 : decode cX6_isSeen 132 = .ok (.if_icmp .eq 49, 3) := by decide +kernel
theorem dX6_isSeen_135 : decode cX6_isSeen 135 = .ok (.aload_n 0, 1) := by decide +kernel
theorem dX6_isSeen_136 : decode cX6_isSeen 136 = .ok (.iload_n 1, 1) := by decide +kernel
theorem dX6_isSeen_137 : decode cX6_isSeen 137 = .ok (.iload_n 2, 1) := by decide +kernel
theorem dX6_isSeen_138 : decode cX6_isSeen 138 = .ok (.invokevirtual 110, 3) := by decide +kernel
theorem dX6_isSeen_141 : decode cX6_isSeen 141 = .ok (.aload_n 0, 1) := by decide +kernel
theorem dX6_isSeen_142 : decode cX6_isSeen 142 = .ok (.iload_n 1, 1) := by decide +kernel
theorem dX6_isSeen_143 : decode cX6_isSeen 143 = .ok (.iload_n 2, 1) := by decide +kernel
theorem dX6_isSeen_144 : decode cX6_isSeen 144 = .ok (.invokevirtual 114, 3) := by decide +kernel
theorem dX6_isSeen_147 : decode cX6_isSeen 147 = .ok (.aload_n 0, 1) := by decide +kernel
theorem dX6_isSeen_148 : decode cX6_isSeen 148 = .ok (.iload_n 1, 1) := by decide +kernel
theorem dX6_isSeen_149 : decode cX6_isSeen 149 = .ok (.iload_n 3, 1) := by decide +kernel
theorem dX6_isSeen_150 : decode cX6_isSeen 150 = .ok (.invokevirtual 110, 3) := by decide +kernel
theorem dX6_isSeen_153 : decode cX6_isSeen 153 = .ok (.aload_n 0, 1) := by decide +kernel
theorem dX6_isSeen_154 : decode cX6_isSeen 154 = .ok (.iload_n 1, 1) := by decide +kernel
theorem dX6_isSeen_155 : decode cX6_isSeen 155 = .ok (.iload_n 3, 1) := by decide +kernel
theorem dX6_isSeen_156 : decode cX6_isSeen 156 = .ok (.invokevirtual 114, 3) := by decide +kernel
theorem dX6_isSeen_159 : decode cX6_isSeen 159 = .ok (.aload_n 0, 1) := by decide +kernel
theorem dX6_isSeen_160 : decode cX6_isSeen 160 = .ok (.iload_n 1, 1) := by decide +kernel
theorem dX6_isSeen_161 : decode cX6_isSeen 161 = .ok (.iload 5, 2) := by decide +kernel
theorem dX6_isSeen_163 : decode cX6_isSeen 163 = .ok (.invokevirtual 110, 3) := by decide +kernel
theorem dX6_isSeen_166 : decode cX6_isSeen 166 = .ok (.aload_n 0, 1) := by decide +kernel
theorem dX6_isSeen_167 : decode cX6_isSeen 167 = .ok (.iload_n 1, 1) := by decide +kernel
theorem dX6_isSeen_168 : decode cX6_isSeen 168 = .ok (.iload 5, 2) := by decide +kernel
theorem dX6_isSeen_170 : decode cX6_isSeen 170 = .ok (.invokevirtual 114, 3) := by decide +kernel
theorem dX6_isSeen_173 : decode cX6_isSeen 173 = .ok (.invokestatic 84, 3) := by decide +kernel
theorem dX6_isSeen_176 : decode cX6_isSeen 176 = .ok (.ifCond .eq 5, 3) := by decide +kernel
theorem dX6_isSeen_179 : decode cX6_isSeen 179 = .ok (.iconst 0, 1) := by decide +kernel
theorem dX6_isSeen_180 : decode cX6_isSeen 180 = .ok (.ireturn, 1) := by decide +kernel
theorem dX6_isSeen_181 : decode cX6_isSeen 181 = .ok (.iinc 5 1, 3) := by decide +kernel
theorem dX6_isSeen_184 : decode cX6_isSeen 184 = .ok (.goto (-173), 3) := by decide +kernel
theorem dX6_isSeen_187 : decode cX6_isSeen 187 = .ok (.aload_n 0, 1) := by decide +kernel
theorem dX6_isSeen_188 : decode cX6_isSeen 188 = .ok (.iload_n 1, 1) := by decide +kernel
theorem dX6_isSeen_189 : decode cX6_isSeen 189 = .ok (.iconst 2, 1) := by decide +kernel
theorem dX6_isSeen_190 : decode cX6_isSeen 190 = .ok (.aload_n 0, 1) := by decide +kernel
theorem dX6_isSeen_191 : decode cX6_isSeen 191 = .ok (.iload_n 1, 1) := by decide +kernel
theorem dX6_isSeen_192 : decode cX6_isSeen 192 = .ok (.iload_n 2, 1) := by decide +kernel
theorem dX6_isSeen_193 : decode cX6_isSeen 193 = .ok (.invokevirtual 110, 3) := by decide +kernel
theorem dX6_isSeen_196 : decode cX6_isSeen 196 = .ok (.aload_n 0, 1) := by decide +kernel
theorem dX6_isSeen_197 : decode cX6_isSeen 197 = .ok (.iload_n 1, 1) := by decide +kernel
theorem dX6_isSeen_198 : decode cX6_isSeen 198 = .ok (.iload_n 3, 1) := by decide +kernel
theorem dX6_isSeen_199 : decode cX6_isSeen 199 = .ok (.invokevirtual 110, 3) := by decide +kernel
theorem dX6_isSeen_202 : decode cX6_isSeen 202 = .ok (.iadd, 1) := by decide +kernel
theorem dX6_isSeen_203 : decode cX6_isSeen 203 = .ok (.aload_n 0, 1) := by decide +kernel
theorem dX6_isSeen_204 : decode cX6_isSeen 204 = .ok (.iload_n 1, 1) := by decide +kernel
theorem dX6_isSeen_205 : decode cX6_isSeen 205 = .ok (.iload_n 2, 1) := by decide +kernel
theorem dX6_isSeen_206 : decode cX6_isSeen 206 = .ok (.invokevirtual 114, 3) := by decide +kernel
theorem dX6_isSeen_209 : decode cX6_isSeen 209 = .ok (.aload_n 0, 1) := by decide +kernel
theorem dX6_isSeen_210 : decode cX6_isSeen 210 = .ok (.iload_n 1, 1) := by decide +kernel
theorem dX6_isSeen_211 : decode cX6_isSeen 211 = .ok (.iload_n 3, 1) := by decide +kernel
theorem dX6_isSeen_212 : decode cX6_isSeen 212 = .ok (.invokevirtual 114, 3) := by decide +kernel
theorem dX6_isSeen_215 : decode cX6_isSeen 215 = .ok (.iadd, 1) := by decide +kernel
theorem dX6_isSeen_216 : decode cX6_isSeen 216 = .ok (.invokevirtual 126, 3) := by decide +kernel
theorem dX6_isSeen_219 : decode cX6_isSeen 219 = .ok (.iconst 2, 1) := by decide +kernel
theorem dX6_isSeen_220 : decode cX6_isSeen 220 = .ok (.if_icmp .ne 7, 3) := by decide +kernel
theorem dX6_isSeen_223 : decode cX6_isSeen 223 = .ok (.iconst 1, 1) := by decide +kernel
theorem dX6_isSeen_224 : decode cX6_isSeen 224 = .ok (.goto 4, 3) := by decide +kernel
theorem dX6_isSeen_227 : decode cX6_isSeen 227 = .ok (.iconst 0, 1) := by decide +kernel
theorem dX6_isSeen_228 : decode cX6_isSeen 228 = .ok (.ireturn, 1) := by decide +kernel
theorem dX6_sight_0 : decode cX6_sight 0 = .ok (.aload_n 0, 1) := by decide +kernel
theorem dX6_sight_1 : decode cX6_sight 1 = .ok (.iload_n 1, 1) := by decide +kernel
theorem dX6_sight_2 : decode cX6_sight 2 = .ok (.iload_n 2, 1) := by decide +kernel
theorem dX6_sight_3 : decode cX6_sight 3 = .ok (.iload_n 3, 1) := by decide +kernel
theorem dX6_sight_4 : decode cX6_sight 4 = .ok (.invokevirtual 130, 3) := by decide +kernel
theorem dX6_sight_7 : decode cX6_sight 7 = .ok (.ifCond .eq 7, 3) := by decide +kernel
theorem dX6_sight_10 : decode cX6_sight 10 = .ok (.iconst 2, 1) := by decide +kernel
theorem dX6_sight_11 : decode cX6_sight 11 = .ok (.goto 18, 3) := by decide +kernel
theorem dX6_sight_14 : decode cX6_sight 14 = .ok (.aload_n 0, 1) := by decide +kernel
theorem dX6_sight_15 : decode cX6_sight 15 = .ok (.iload_n 1, 1) := by decide +kernel
theorem dX6_sight_16 : decode cX6_sight 16 = .ok (.iload_n 2, 1) := by decide +kernel
theorem dX6_sight_17 : decode cX6_sight 17 = .ok (.iload_n 3, 1) := by decide +kernel
theorem dX6_sight_18 : decode cX6_sight 18 = .ok (.invokevirtual 133, 3) := by decide +kernel
theorem dX6_sight_21 : decode cX6_sight 21 = .ok (.ifCond .eq 7, 3) := by decide +kernel
theorem dX6_sight_24 : decode cX6_sight 24 = .ok (.iconst 1, 1) := by decide +kernel
theorem dX6_sight_25 : decode cX6_sight 25 = .ok (.goto 4, 3) := by decide +kernel
theorem dX6_sight_28 : decode cX6_sight 28 = .ok (.iconst 0, 1) := by decide +kernel
theorem dX6_sight_29 : decode cX6_sight 29 = .ok (.ireturn, 1) := by decide +kernel
theorem dX6_sees_0 : decode cX6_sees 0 = .ok (.aload_n 0, 1) := by decide +kernel
theorem dX6_sees_1 : decode cX6_sees 1 = .ok (.iload_n 1, 1) := by decide +kernel
theorem dX6_sees_2 : decode cX6_sees 2 = .ok (.iload_n 2, 1) := by decide +kernel
theorem dX6_sees_3 : decode cX6_sees 3 = .ok (.invokevirtual 106, 3) := by decide +kernel
theorem dX6_sees_6 : decode cX6_sees 6 = .ok (.ifCond .eq 12, 3) := by decide +kernel
theorem dX6_sees_9 : decode cX6_sees 9 = .ok (.aload_n 0, 1) := by decide +kernel
theorem dX6_sees_10 : decode cX6_sees 10 = .ok (.iload_n 1, 1) := by decide +kernel
theorem dX6_sees_11 : decode cX6_sees 11 = .ok (.iload_n 3, 1) := by decide +kernel
theorem dX6_sees_12 : decode cX6_sees 12 = .ok (.invokevirtual 106, 3) := by decide +kernel
theorem dX6_sees_15 : decode cX6_sees 15 = .ok (.ifCond .ne 6, 3) := by decide +kernel
theorem dX6_sees_18 : decode cX6_sees 18 = .ok (.bipush (-2), 2) := by decide +kernel
theorem dX6_sees_20 : decode cX6_sees 20 = .ok (.ireturn, 1) := by decide +kernel
theorem dX6_sees_21 : decode cX6_sees 21 = .ok (.iload_n 2, 1) := by decide +kernel
theorem dX6_sees_22 : decode cX6_sees 22 = .ok (.iload_n 3, 1) := by decide +kernel
theorem dX6_sees_23 : decode cX6_sees 23 = .ok (.if_icmp .ne 8, 3) := by decide +kernel
theorem dX6_sees_26 : decode cX6_sees 26 = .ok (.bipush (-3), 2) := by decide +kernel
theorem dX6_sees_28 : decode cX6_sees 28 = .ok (.goto 10, 3) := by decide +kernel
theorem dX6_sees_31 : decode cX6_sees 31 = .ok (.aload_n 0, 1) := by decide +kernel
theorem dX6_sees_32 : decode cX6_sees 32 = .ok (.iload_n 1, 1) := by decide +kernel
theorem dX6_sees_33 : decode cX6_sees 33 = .ok (.iload_n 2, 1) := by decide +kernel
theorem dX6_sees_34 : decode cX6_sees 34 = .ok (.iload_n 3, 1) := by decide +kernel
theorem dX6_sees_35 : decode cX6_sees 35 = .ok (.invokevirtual 136, 3) := by decide +kernel
theorem dX6_sees_38 : decode cX6_sees 38 = .ok (.ireturn, 1) := by decide +kernel
theorem dX6_findFar_0 : decode cX6_findFar 0 = .ok (.iconst 0, 1) := by decide +kernel
theorem dX6_findFar_1 : decode cX6_findFar 1 = .ok (.istore_n 3, 1) := by decide +kernel
theorem dX6_findFar_2 : decode cX6_findFar 2 = .ok (.iload_n 3, 1) := by decide +kernel
theorem dX6_findFar_3 : decode cX6_findFar 3 = .ok (.bipush 14, 2) := by decide +kernel
theorem dX6_findFar_5 : decode cX6_findFar 5 = .ok (.if_icmp .ge 16, 3) := by decide +kernel
theorem dX6_findFar_8 : decode cX6_findFar 8 = .ok (.aload_n 0, 1) := by decide +kernel
theorem dX6_findFar_9 : decode cX6_findFar 9 = .ok (.getfield 32, 3) := by decide +kernel
theorem dX6_findFar_12 : decode cX6_findFar 12 = .ok (.iload_n 3, 1) := by decide +kernel
theorem dX6_findFar_13 : decode cX6_findFar 13 = .ok (.iconst (-1), 1) := by decide +kernel
theorem dX6_findFar_14 : decode cX6_findFar 14 = .ok (.iastore, 1) := by decide +kernel
theorem dX6_findFar_15 : decode cX6_findFar 15 = .ok (.iinc 3 1, 3) := by decide +kernel
theorem dX6_findFar_18 : decode cX6_findFar 18 = .ok (.goto (-16), 3) := by decide +kernel
theorem dX6_findFar_21 : decode cX6_findFar 21 = .ok (.aload_n 0, 1) := by decide +kernel
theorem dX6_findFar_22 : decode cX6_findFar 22 = .ok (.getfield 32, 3) := by decide +kernel
theorem dX6_findFar_25 : decode cX6_findFar 25 = .ok (.iload_n 2, 1) := by decide +kernel
theorem dX6_findFar_26 : decode cX6_findFar 26 = .ok (.iconst 0, 1) := by decide +kernel
theorem dX6_findFar_27 : decode cX6_findFar 27 = .ok (.iastore, 1) := by decide +kernel
theorem dX6_findFar_28 : decode cX6_findFar 28 = .ok (.iconst 0, 1) := by decide +kernel
theorem dX6_findFar_29 : decode cX6_findFar 29 = .ok (.istore_n 3, 1) := by decide +kernel
theorem dX6_findFar_30 : decode cX6_findFar 30 = .ok (.iload_n 3, 1) := by decide +kernel
theorem dX6_findFar_31 : decode cX6_findFar 31 = .ok (.aload_n 0, 1) := by decide +kernel
theorem dX6_findFar_32 : decode cX6_findFar 32 = .ok (.getfield 16, 3) := by decide +kernel
theorem dX6_findFar_35 : decode cX6_findFar 35 = .ok (.iload_n 1, 1) := by decide +kernel
theorem dX6_findFar_36 : decode cX6_findFar 36 = .ok (.iaload, 1) := by decide +kernel
theorem dX6_findFar_37 : decode cX6_findFar 37 = .ok (.if_icmp .ge 93, 3) := by decide +kernel
