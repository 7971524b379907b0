set_option maxRecDepth 20000 in
theorem ggX5_init_X1_init : GoodIn wsX5_init wsX1_init := goodIn_r _ [26, 27, 2, 3, 28, 29, 30, 31, 67, 68, 69] (by decide +kernel) (by decide +kernel)
set_option maxRecDepth 20000 in
theorem gX5_init_X1_init_n9 : GoodIn wsX5_init (wsX1_init) := ggX5_init_X1_init
set_option maxRecDepth 20000 in
theorem ggX5_init_X0_init : GoodIn wsX5_init wsX0_init := goodIn_r _ [33, 34, 2, 3, 35, 36, 37, 76, 77, 78] (by decide +kernel) (by decide +kernel)
set_option maxRecDepth 20000 in
theorem gX5_init_X0_init_n18 : GoodIn wsX5_init (wsX0_init) := ggX5_init_X0_init
set_option maxRecDepth 20000 in
theorem ggX5_init_X2_init : GoodIn wsX5_init wsX2_init := goodIn_r _ [39, 40, 2, 3, 41, 28, 42, 43, 44, 45, 79, 80, 81, 82] (by decide +kernel) (by decide +kernel)
set_option maxRecDepth 20000 in
theorem gX5_init_X2_init_n25 : GoodIn wsX5_init (wsX2_init) := ggX5_init_X2_init
set_option maxRecDepth 20000 in
theorem ggX5_init_X4_init : GoodIn wsX5_init wsX4_init := goodIn_r _ [47, 48, 2, 3, 28, 49, 83] (by decide +kernel) (by decide +kernel)
set_option maxRecDepth 20000 in
theorem gX5_init_X4_init_n32 : GoodIn wsX5_init (wsX4_init) := ggX5_init_X4_init
set_option maxRecDepth 20000 in
theorem ggX5_init_X3_init : GoodIn wsX5_init wsX3_init := goodIn_r _ [51, 52, 2, 3, 53, 5, 6, 54, 55, 28, 56, 57, 58, 59, 60, 61, 62, 63, 64, 65, 66, 25, 26, 27, 29, 30, 31, 67, 68, 69, 84, 85, 86, 87, 88, 89, 90, 91, 92, 93, 94, 95] (by decide +kernel) (by decide +kernel)
set_option maxRecDepth 20000 in
theorem gX5_init_X3_init_n43 : GoodIn wsX5_init (wsX3_init) := ggX5_init_X3_init
theorem dX5_init_0 : decode cX5_init 0 = .ok (.aload_n 0, 1) := by decide +kernel
theorem dX5_init_1 : decode cX5_init 1 = .ok (.invokespecial 1, 3) := by decide +kernel
theorem dX5_init_4 : decode cX5_init 4 = .ok (.aload_n 0, 1) := by decide +kernel
theorem dX5_init_5 : decode cX5_init 5 = .ok (.new 7, 3) := by decide +kernel
theorem dX5_init_8 : decode cX5_init 8 = .ok (.dup, 1) := by decide +kernel
theorem dX5_init_9 : decode cX5_init 9 = .ok (.invokespecial 9, 3) := by decide +kernel
theorem dX5_init_12 : decode cX5_init 12 = .ok (.putfield 10, 3) := by decide +kernel
theorem dX5_init_15 : decode cX5_init 15 = .ok (.aload_n 0, 1) := by decide +kernel
theorem dX5_init_16 : decode cX5_init 16 = .ok (.new 16, 3) := by decide +kernel
theorem dX5_init_19 : decode cX5_init 19 = .ok (.dup, 1) := by decide +kernel
theorem dX5_init_20 : decode cX5_init 20 = .ok (.invokespecial 18, 3) := by decide +kernel
theorem dX5_init_23 : decode cX5_init 23 = .ok (.putfield 19, 3) := by decide +kernel
theorem dX5_init_26 : decode cX5_init 26 = .ok (.aload_n 0, 1) := by decide +kernel
theorem dX5_init_27 : decode cX5_init 27 = .ok (.new 23, 3) := by decide +kernel
theorem dX5_init_30 : decode cX5_init 30 = .ok (.dup, 1) := by decide +kernel
theorem dX5_init_31 : decode cX5_init 31 = .ok (.invokespecial 25, 3) := by decide +kernel
theorem dX5_init_34 : decode cX5_init 34 = .ok (.putfield 26, 3) := by decide +kernel
theorem dX5_init_37 : decode cX5_init 37 = .ok (.aload_n 0, 1) := by decide +kernel
theorem dX5_init_38 : decode cX5_init 38 = .ok (.new 30, 3) := by decide +kernel
theorem dX5_init_41 : decode cX5_init 41 = .ok (.dup, 1) := by decide +kernel
theorem dX5_init_42 : decode cX5_init 42 = .ok (.invokespecial 32, 3) := by decide +kernel
theorem dX5_init_45 : decode cX5_init 45 = .ok (.putfield 33, 3) := by decide +kernel
theorem dX5_init_48 : decode cX5_init 48 = .ok (.aload_n 0, 1) := by decide +kernel
theorem dX5_init_49 : decode cX5_init 49 = .ok (.bipush 8, 2) := by decide +kernel
theorem dX5_init_51 : decode cX5_init 51 = .ok (.anewarray 37, 3) := by decide +kernel
theorem dX5_init_54 : decode cX5_init 54 = .ok (.putfield 39, 3) := by decide +kernel
theorem dX5_init_57 : decode cX5_init 57 = .ok (.iconst 0, 1) := by decide +kernel
theorem dX5_init_58 : decode cX5_init 58 = .ok (.istore_n 1, 1) := by decide +kernel
theorem dX5_init_59 : decode cX5_init 59 = .ok (.iload_n 1, 1) := by decide +kernel
theorem dX5_init_60 : decode cX5_init 60 = .ok (.bipush 8, 2) := by decide +kernel
theorem dX5_init_62 : decode cX5_init 62 = .ok (.if_icmp .ge 22, 3) := by decide +kernel
theorem dX5_init_65 : decode cX5_init 65 = .ok (.aload_n 0, 1) := by decide +kernel
theorem dX5_init_66 : decode cX5_init 66 = .ok (.getfield 39, 3) := by decide +kernel
theorem dX5_init_69 : decode cX5_init 69 = .ok (.iload_n 1, 1) := by decide +kernel
theorem dX5_init_70 : decode cX5_init 70 = .ok (.new 37, 3) := by decide +kernel
theorem dX5_init_73 : decode cX5_init 73 = .ok (.dup, 1) := by decide +kernel
theorem dX5_init_74 : decode cX5_init 74 = .ok (.invokespecial 43, 3) := by decide +kernel
theorem dX5_init_77 : decode cX5_init 77 = .ok (.aastore, 1) := by decide +kernel
theorem dX5_init_78 : decode cX5_init 78 = .ok (.iinc 1 1, 3) := by decide +kernel
theorem dX5_init_81 : decode cX5_init 81 = .ok (.goto (-22), 3) := by decide +kernel
theorem dX5_init_84 : decode cX5_init 84 = .ok (.aload_n 0, 1) := by decide +kernel
theorem dX5_init_85 : decode cX5_init 85 = .ok (.iconst 0, 1) := by decide +kernel
theorem dX5_init_86 : decode cX5_init 86 = .ok (.putfield 44, 3) := by decide +kernel
theorem dX5_init_89 : decode cX5_init 89 = .ok (.return_, 1) := by decide +kernel
set_option maxRecDepth 20000 in
theorem ggX5_corner_X5_isWithin : GoodIn wsX5_corner wsX5_isWithin := goodIn_r _ [6] (by decide +kernel) (by decide +kernel)
set_option maxRecDepth 20000 in
theorem gX5_corner_X5_isWithin : GoodIn wsX5_corner (va_wsS RX5 48 yX5_isWithin wsX5_isWithin) := goodIn_app (goodIn_of _ (by decide +kernel)) ggX5_corner_X5_isWithin
set_option maxRecDepth 20000 in
theorem ggX5_corner_X1_isFull : GoodIn wsX5_corner wsX1_isFull := goodIn_r _ [11, 12, 26, 27, 28] (by decide +kernel) (by decide +kernel)
set_option maxRecDepth 20000 in
theorem gX5_corner_X1_isFull : GoodIn wsX5_corner (wsV RX5 52 RX1 yX1_isFull wsX1_isFull) := goodIn_app (goodIn_of _ (by decide +kernel)) ggX5_corner_X1_isFull
set_option maxRecDepth 20000 in
theorem ggX5_corner_X1_append : GoodIn wsX5_corner wsX1_append := goodIn_r _ [16, 17, 12, 18, 19, 8, 9, 10, 11, 26, 27, 28] (by decide +kernel) (by decide +kernel)
set_option maxRecDepth 20000 in
theorem gX5_corner_X1_append : GoodIn wsX5_corner (wsV RX5 56 RX1 yX1_append wsX1_append) := goodIn_app (goodIn_of _ (by decide +kernel)) ggX5_corner_X1_append
theorem dX5_corner_0 : decode cX5_corner 0 = .ok (.iload_n 1, 1) := by decide +kernel
theorem dX5_corner_1 : decode cX5_corner 1 = .ok (.sipush 1000, 3) := by decide +kernel
theorem dX5_corner_4 : decode cX5_corner 4 = .ok (.invokestatic 48, 3) := by decide +kernel
theorem dX5_corner_7 : decode cX5_corner 7 = .ok (.ifCond .eq 13, 3) := by decide +kernel
theorem dX5_corner_10 : decode cX5_corner 10 = .ok (.iload_n 2, 1) := by decide +kernel
theorem dX5_corner_11 : decode cX5_corner 11 = .ok (.sipush 1000, 3) := by decide +kernel
theorem dX5_corner_14 : decode cX5_corner 14 = .ok (.invokestatic 48, 3) := by decide +kernel
theorem dX5_corner_17 : decode cX5_corner 17 = .ok (.ifCond .ne 6, 3) := by decide +kernel
theorem dX5_corner_20 : decode cX5_corner 20 = .ok (.bipush (-3), 2) := by decide +kernel
theorem dX5_corner_22 : decode cX5_corner 22 = .ok (.ireturn, 1) := by decide +kernel
theorem dX5_corner_23 : decode cX5_corner 23 = .ok (.aload_n 0, 1) := by decide +kernel
theorem dX5_corner_24 : decode cX5_corner 24 = .ok (.getfield 10, 3) := by decide +kernel
theorem dX5_corner_27 : decode cX5_corner 27 = .ok (.invokevirtual 52, 3) := by decide +kernel
theorem dX5_corner_30 : decode cX5_corner 30 = .ok (.ifCond .eq 6, 3) := by decide +kernel
theorem dX5_corner_33 : decode cX5_corner 33 = .ok (.bipush (-4), 2) := by decide +kernel
theorem dX5_corner_35 : decode cX5_corner 35 = .ok (.ireturn, 1) := by decide +kernel
theorem dX5_corner_36 : decode cX5_corner 36 = .ok (.aload_n 0, 1) := by decide +kernel
theorem dX5_corner_37 : decode cX5_corner 37 = .ok (.getfield 10, 3) := by decide +kernel
theorem dX5_corner_40 : decode cX5_corner 40 = .ok (.iload_n 1, 1) := by decide +kernel
theorem dX5_corner_41 : decode cX5_corner 41 = .ok (.iload_n 2, 1) := by decide +kernel
theorem dX5_corner_42 : decode cX5_corner 42 = .ok (.invokevirtual 56, 3) := by decide +kernel
theorem dX5_corner_45 : decode cX5_corner 45 = .ok (.aload_n 0, 1) := by decide +kernel
theorem dX5_corner_46 : decode cX5_corner 46 = .ok (.getfield 10, 3) := by decide +kernel
theorem dX5_corner_49 : decode cX5_corner 49 = .ok (.getfield 60, 3) := by decide +kernel
theorem dX5_corner_52 : decode cX5_corner 52 = .ok (.ireturn, 1) := by decide +kernel
set_option maxRecDepth 20000 in
theorem ggX5_polygon_X0_examine : GoodIn wsX5_polygon wsX0_examine := goodIn_r _ [11, 12, 13, 14, 15, 16, 10, 17, 18, 19, 20, 21, 22, 23, 24, 25, 26, 27, 28, 29, 30, 31, 32, 33, 34, 35, 36, 37, 38, 39, 40, 41, 42, 43, 44, 45, 46, 47, 48, 49, 50, 51, 52, 53, 54, 55, 56, 57, 58, 59, 60, 61, 62, 196, 197, 198, 193, 194, 195] (by decide +kernel) (by decide +kernel)
set_option maxRecDepth 20000 in
theorem gX5_polygon_X0_examine : GoodIn wsX5_polygon (wsV RX5 63 RX0 yX0_examine wsX0_examine) := goodIn_app (goodIn_of _ (by decide +kernel)) ggX5_polygon_X0_examine
set_option maxRecDepth 20000 in
theorem ggX5_polygon_X3_become : GoodIn wsX5_polygon wsX3_become := goodIn_r _ [67, 68, 69, 70, 71, 72, 73, 27, 74, 29, 38, 75, 76, 77, 78, 39, 79, 80, 81, 66, 82, 83, 84, 85, 31, 32, 33, 199, 200, 201, 202, 203, 204, 205, 206, 207, 208, 209, 210, 196, 197, 198] (by decide +kernel) (by decide +kernel)
set_option maxRecDepth 20000 in
theorem gX5_polygon_X3_become : GoodIn wsX5_polygon (wsV RX5 70 RX3 yX3_become wsX3_become) := goodIn_app (goodIn_of _ (by decide +kernel)) ggX5_polygon_X3_become
set_option maxRecDepth 20000 in
theorem ggX5_polygon_X3_lookAround : GoodIn wsX5_polygon wsX3_lookAround := goodIn_r _ [89, 68, 70, 90, 91, 92, 93, 66, 94, 83, 84, 85, 31, 32, 27, 33, 29, 95, 96, 97, 98, 99, 45, 46, 47, 38, 39, 48, 49, 50, 51, 52, 53, 54, 55, 56, 57, 58, 59, 60, 61, 62, 35, 36, 37, 100, 101, 102, 103, 199, 200, 201, 202, 203, 204, 205, 206, 207, 208, 209, 210, 196, 197, 198] (by decide +kernel) (by decide +kernel)
set_option maxRecDepth 20000 in
theorem gX5_polygon_X3_lookAround : GoodIn wsX5_polygon (wsV RX5 73 RX3 yX3_lookAround wsX3_lookAround) := goodIn_app (goodIn_of _ (by decide +kernel)) ggX5_polygon_X3_lookAround
set_option maxRecDepth 20000 in
theorem ggX5_polygon_X2_cut : GoodIn wsX5_polygon wsX2_cut := goodIn_r _ [108, 109, 110, 111, 112, 113, 114, 115, 116, 117, 107, 118, 119, 120, 121, 122, 123, 124, 125, 126, 127, 27, 128, 38, 39, 129, 130, 131, 132, 133, 134, 135, 136, 137, 138, 66, 139, 68, 70, 140, 141, 142, 143, 144, 145, 146, 147, 148, 149, 150, 151, 152, 153, 154, 155, 156, 157, 158, 159, 160, 161, 162, 163, 164, 165, 166, 167, 168, 169, 170, 171, 172, 25, 26, 28, 29, 173, 174, 175, 176, 177, 31, 32, 33, 178, 35, 36, 37, 179, 180, 181, 182, 69, 199, 200, 201, 202, 203, 204, 205, 206, 207, 208, 209, 210, 196, 197, 198, 211, 212, 213, 214] (by decide +kernel) (by decide +kernel)
set_option maxRecDepth 20000 in
theorem gX5_polygon_X2_cut : GoodIn wsX5_polygon (wsV RX5 76 RX2 yX2_cut wsX2_cut) := goodIn_app (goodIn_of _ (by decide +kernel)) ggX5_polygon_X2_cut
set_option maxRecDepth 20000 in
theorem ggX5_polygon_X1_clear : GoodIn wsX5_polygon wsX1_clear := goodIn_r _ [186, 29, 196, 197, 198] (by decide +kernel) (by decide +kernel)
set_option maxRecDepth 20000 in
theorem gX5_polygon_X1_clear : GoodIn wsX5_polygon (wsV RX5 80 RX1 yX1_clear wsX1_clear) := goodIn_app (goodIn_of _ (by decide +kernel)) ggX5_polygon_X1_clear
theorem dX5_polygon_0 : decode cX5_polygon 0 = .ok (.aload_n 0, 1) := by decide +kernel
theorem dX5_polygon_1 : decode cX5_polygon 1 = .ok (.getfield 44, 3) := by decide +kernel
theorem dX5_polygon_4 : decode cX5_polygon 4 = .ok (.bipush 8, 2) := by decide +kernel
theorem dX5_polygon_6 : decode cX5_polygon 6 = .ok (.if_icmp .lt 6, 3) := by decide +kernel
theorem dX5_polygon_9 : decode cX5_polygon 9 = .ok (.bipush (-4), 2) := by decide +kernel
theorem dX5_polygon_11 : decode cX5_polygon 11 = .ok (.ireturn, 1) := by decide +kernel
theorem dX5_polygon_12 : decode cX5_polygon 12 = .ok (.aload_n 0, 1) := by decide +kernel
theorem dX5_polygon_13 : decode cX5_polygon 13 = .ok (.getfield 19, 3) := by decide +kernel
theorem dX5_polygon_16 : decode cX5_polygon 16 = .ok (.aload_n 0, 1) := by decide +kernel
theorem dX5_polygon_17 : decode cX5_polygon 17 = .ok (.getfield 10, 3) := by decide +kernel
theorem dX5_polygon_20 : decode cX5_polygon 20 = .ok (.invokevirtual 63, 3) := by decide +kernel
theorem dX5_polygon_23 : decode cX5_polygon 23 = .ok (.aload_n 0, 1) := by decide +kernel
theorem dX5_polygon_24 : decode cX5_polygon 24 = .ok (.getfield 19, 3) := by decide +kernel
theorem dX5_polygon_27 : decode cX5_polygon 27 = .ok (.getfield 67, 3) := by decide +kernel
theorem dX5_polygon_30 : decode cX5_polygon 30 = .ok (.ifCond .ne 43, 3) := by decide +kernel
theorem dX5_polygon_33 : decode cX5_polygon 33 = .ok (.aload_n 0, 1) := by decide +kernel
theorem dX5_polygon_34 : decode cX5_polygon 34 = .ok (.getfield 39, 3) := by decide +kernel
theorem dX5_polygon_37 : decode cX5_polygon 37 = .ok (.aload_n 0, 1) := by decide +kernel
theorem dX5_polygon_38 : decode cX5_polygon 38 = .ok (.getfield 44, 3) := by decide +kernel
theorem dX5_polygon_41 : decode cX5_polygon 41 = .ok (.aaload, 1) := by decide +kernel
theorem dX5_polygon_42 : decode cX5_polygon 42 = .ok (.astore_n 1, 1) := by decide +kernel
theorem dX5_polygon_43 : decode cX5_polygon 43 = .ok (.aload_n 1, 1) := by decide +kernel
theorem dX5_polygon_44 : decode cX5_polygon 44 = .ok (.aload_n 0, 1) := by decide +kernel
theorem dX5_polygon_45 : decode cX5_polygon 45 = .ok (.getfield 10, 3) := by decide +kernel
theorem dX5_polygon_48 : decode cX5_polygon 48 = .ok (.invokevirtual 70, 3) := by decide +kernel
theorem dX5_polygon_51 : decode cX5_polygon 51 = .ok (.aload_n 1, 1) := by decide +kernel
theorem dX5_polygon_52 : decode cX5_polygon 52 = .ok (.invokevirtual 73, 3) := by decide +kernel
theorem dX5_polygon_55 : decode cX5_polygon 55 = .ok (.aload_n 0, 1) := by decide +kernel
theorem dX5_polygon_56 : decode cX5_polygon 56 = .ok (.getfield 26, 3) := by decide +kernel
theorem dX5_polygon_59 : decode cX5_polygon 59 = .ok (.aload_n 1, 1) := by decide +kernel
theorem dX5_polygon_60 : decode cX5_polygon 60 = .ok (.invokevirtual 76, 3) := by decide +kernel
theorem dX5_polygon_63 : decode cX5_polygon 63 = .ok (.aload_n 0, 1) := by decide +kernel
theorem dX5_polygon_64 : decode cX5_polygon 64 = .ok (.dup, 1) := by decide +kernel
theorem dX5_polygon_65 : decode cX5_polygon 65 = .ok (.getfield 44, 3) := by decide +kernel
theorem dX5_polygon_68 : decode cX5_polygon 68 = .ok (.iconst 1, 1) := by decide +kernel
theorem dX5_polygon_69 : decode cX5_polygon 69 = .ok (.iadd, 1) := by decide +kernel
theorem dX5_polygon_70 : decode cX5_polygon 70 = .ok (.putfield 44, 3) := by decide +kernel
theorem dX5_polygon_73 : decode cX5_polygon 73 = .ok (.aload_n 0, 1) := by decide +kernel
theorem dX5_polygon_74 : decode cX5_polygon 74 = .ok (.getfield 10, 3) := by decide +kernel
theorem dX5_polygon_77 : decode cX5_polygon 77 = .ok (.invokevirtual 80, 3) := by decide +kernel
theorem dX5_polygon_80 : decode cX5_polygon 80 = .ok (.aload_n 0, 1) := by decide +kernel
theorem dX5_polygon_81 : decode cX5_polygon 81 = .ok (.getfield 19, 3) := by decide +kernel
theorem dX5_polygon_84 : decode cX5_polygon 84 = .ok (.getfield 67, 3) := by decide +kernel
theorem dX5_polygon_87 : decode cX5_polygon 87 = .ok (.ifCond .ne 12, 3) := by decide +kernel
theorem dX5_polygon_90 : decode cX5_polygon 90 = .ok (.aload_n 0, 1) := by decide +kernel
theorem dX5_polygon_91 : decode cX5_polygon 91 = .ok (.getfield 44, 3) := by decide +kernel
theorem dX5_polygon_94 : decode cX5_polygon 94 = .ok (.iconst 1, 1) := by decide +kernel
theorem dX5_polygon_95 : decode cX5_polygon 95 = .ok (.isub, 1) := by decide +kernel
theorem dX5_polygon_96 : decode cX5_polygon 96 = .ok (.goto 13, 3) := by decide +kernel
theorem dX5_polygon_99 : decode cX5_polygon 99 = .ok (.bipush (-10), 2) := by decide +kernel
theorem dX5_polygon_101 : decode cX5_polygon 101 = .ok (.aload_n 0, 1) := by decide +kernel
theorem dX5_polygon_102 : decode cX5_polygon 102 = .ok (.getfield 19, 3) := by decide +kernel
theorem dX5_polygon_105 : decode cX5_polygon 105 = .ok (.getfield 67, 3) := by decide +kernel
theorem dX5_polygon_108 : decode cX5_polygon 108 = .ok (.isub, 1) := by decide +kernel
theorem dX5_polygon_109 : decode cX5_polygon 109 = .ok (.ireturn, 1) := by decide +kernel
theorem dX5_fault_0 : decode cX5_fault 0 = .ok (.iload_n 1, 1) := by decide +kernel
theorem dX5_fault_1 : decode cX5_fault 1 = .ok (.ifCond .ne 11, 3) := by decide +kernel
theorem dX5_fault_4 : decode cX5_fault 4 = .ok (.aload_n 0, 1) := by decide +kernel
theorem dX5_fault_5 : decode cX5_fault 5 = .ok (.getfield 19, 3) := by decide +kernel
theorem dX5_fault_8 : decode cX5_fault 8 = .ok (.getfield 83, 3) := by decide +kernel
theorem dX5_fault_11 : decode cX5_fault 11 = .ok (.ireturn, 1) := by decide +kernel
theorem dX5_fault_12 : decode cX5_fault 12 = .ok (.iload_n 1, 1) := by decide +kernel
theorem dX5_fault_13 : decode cX5_fault 13 = .ok (.iconst 1, 1) := by decide +kernel
theorem dX5_fault_14 : decode cX5_fault 14 = .ok (.if_icmp .ne 13, 3) := by decide +kernel
theorem dX5_fault_17 : decode cX5_fault 17 = .ok (.aload_n 0, 1) := by decide +kernel
theorem dX5_fault_18 : decode cX5_fault 18 = .ok (.getfield 19, 3) := by decide +kernel
theorem dX5_fault_21 : decode cX5_fault 21 = .ok (.getfield 86, 3) := by decide +kernel
theorem dX5_fault_24 : decode cX5_fault 24 = .ok (.goto 5, 3) := by decide +kernel
theorem dX5_fault_27 : decode cX5_fault 27 = .ok (.bipush (-3), 2) := by decide +kernel
theorem dX5_fault_29 : decode cX5_fault 29 = .ok (.ireturn, 1) := by decide +kernel
theorem dX5_drop_0 : decode cX5_drop 0 = .ok (.aload_n 0, 1) := by decide +kernel
theorem dX5_drop_1 : decode cX5_drop 1 = .ok (.getfield 44, 3) := by decide +kernel
theorem dX5_drop_4 : decode cX5_drop 4 = .ok (.ifCond .ne 6, 3) := by decide +kernel
theorem dX5_drop_7 : decode cX5_drop 7 = .ok (.bipush (-2), 2) := by decide +kernel
theorem dX5_drop_9 : decode cX5_drop 9 = .ok (.ireturn, 1) := by decide +kernel
theorem dX5_drop_10 : decode cX5_drop 10 = .ok (.aload_n 0, 1) := by decide +kernel
theorem dX5_drop_11 : decode cX5_drop 11 = .ok (.dup, 1) := by decide +kernel
theorem dX5_drop_12 : decode cX5_drop 12 = .ok (.getfield 44, 3) := by decide +kernel
theorem dX5_drop_15 : decode cX5_drop 15 = .ok (.iconst 1, 1) := by decide +kernel
theorem dX5_drop_16 : decode cX5_drop 16 = .ok (.isub, 1) := by decide +kernel
theorem dX5_drop_17 : decode cX5_drop 17 = .ok (.putfield 44, 3) := by decide +kernel
theorem dX5_drop_20 : decode cX5_drop 20 = .ok (.aload_n 0, 1) := by decide +kernel
theorem dX5_drop_21 : decode cX5_drop 21 = .ok (.getfield 44, 3) := by decide +kernel
theorem dX5_drop_24 : decode cX5_drop 24 = .ok (.ireturn, 1) := by decide +kernel
set_option maxRecDepth 20000 in
theorem ggX5_count_X5_shapeOf : GoodIn wsX5_count wsX5_shapeOf := goodIn_r _ [8, 1, 9, 10, 11, 12, 13, 14, 15] (by decide +kernel) (by decide +kernel)
set_option maxRecDepth 20000 in
theorem gX5_count_X5_shapeOf : GoodIn wsX5_count (wsV RX5 89 RX5 yX5_shapeOf wsX5_shapeOf) := goodIn_app (goodIn_of _ (by decide +kernel)) ggX5_count_X5_shapeOf
theorem dX5_count_0 : decode cX5_count 0 = .ok (.iload_n 1, 1) := by decide +kernel
theorem dX5_count_1 : decode cX5_count 1 = .ok (.iconst (-1), 1) := by decide +kernel
theorem dX5_count_2 : decode cX5_count 2 = .ok (.if_icmp .ne 8, 3) := by decide +kernel
theorem dX5_count_5 : decode cX5_count 5 = .ok (.aload_n 0, 1) := by decide +kernel
theorem dX5_count_6 : decode cX5_count 6 = .ok (.getfield 44, 3) := by decide +kernel
theorem dX5_count_9 : decode cX5_count 9 = .ok (.ireturn, 1) := by decide +kernel
theorem dX5_count_10 : decode cX5_count 10 = .ok (.aload_n 0, 1) := by decide +kernel
theorem dX5_count_11 : decode cX5_count 11 = .ok (.iload_n 1, 1) := by decide +kernel
theorem dX5_count_12 : decode cX5_count 12 = .ok (.invokevirtual 89, 3) := by decide +kernel
theorem dX5_count_15 : decode cX5_count 15 = .ok (.astore_n 2, 1) := by decide +kernel
theorem dX5_count_16 : decode cX5_count 16 = .ok (.aload_n 2, 1) := by decide +kernel
theorem dX5_count_17 : decode cX5_count 17 = .ok (.ifnonnull 8, 3) := by decide +kernel
theorem dX5_count_20 : decode cX5_count 20 = .ok (.bipush (-2), 2) := by decide +kernel
theorem dX5_count_22 : decode cX5_count 22 = .ok (.goto 10, 3) := by decide +kernel
theorem dX5_count_25 : decode cX5_count 25 = .ok (.aload_n 2, 1) := by decide +kernel
theorem dX5_count_26 : decode cX5_count 26 = .ok (.getfield 93, 3) := by decide +kernel
theorem dX5_count_29 : decode cX5_count 29 = .ok (.getfield 60, 3) := by decide +kernel
theorem dX5_count_32 : decode cX5_count 32 = .ok (.ireturn, 1) := by decide +kernel
set_option maxRecDepth 20000 in
theorem ggX5_at_X5_shapeOf : GoodIn wsX5_at wsX5_shapeOf := goodIn_r _ [6, 7, 8, 36, 37, 38, 39, 40, 41] (by decide +kernel) (by decide +kernel)
set_option maxRecDepth 20000 in
theorem gX5_at_X5_shapeOf : GoodIn wsX5_at (wsV RX5 89 RX5 yX5_shapeOf wsX5_shapeOf) := goodIn_app (goodIn_of _ (by decide +kernel)) ggX5_at_X5_shapeOf
set_option maxRecDepth 20000 in
theorem ggX5_at_X1_has : GoodIn wsX5_at wsX1_has := goodIn_r _ [13, 14, 42, 43, 44] (by decide +kernel) (by decide +kernel)
set_option maxRecDepth 20000 in
theorem gX5_at_X1_has : GoodIn wsX5_at (wsV RX5 96 RX1 yX1_has wsX1_has) := goodIn_app (goodIn_of _ (by decide +kernel)) ggX5_at_X1_has
set_option maxRecDepth 20000 in
theorem ggX5_at_X5_isZeroOrOne : GoodIn wsX5_at wsX5_isZeroOrOne := goodIn_r _ [17] (by decide +kernel) (by decide +kernel)
set_option maxRecDepth 20000 in
theorem gX5_at_X5_isZeroOrOne : GoodIn wsX5_at (va_wsS RX5 100 yX5_isZeroOrOne wsX5_isZeroOrOne) := goodIn_app (goodIn_of _ (by decide +kernel)) ggX5_at_X5_isZeroOrOne
set_option maxRecDepth 20000 in
theorem ggX5_at_X1_along : GoodIn wsX5_at wsX1_along := goodIn_r _ [21, 22, 23, 42, 43, 44] (by decide +kernel) (by decide +kernel)
set_option maxRecDepth 20000 in
theorem gX5_at_X1_along : GoodIn wsX5_at (wsV RX5 103 RX1 yX1_along wsX1_along) := goodIn_app (goodIn_of _ (by decide +kernel)) ggX5_at_X1_along
theorem dX5_at_0 : decode cX5_at 0 = .ok (.aload_n 0, 1) := by decide +kernel
theorem dX5_at_1 : decode cX5_at 1 = .ok (.iload_n 1, 1) := by decide +kernel
theorem dX5_at_2 : decode cX5_at 2 = .ok (.invokevirtual 89, 3) := by decide +kernel
theorem dX5_at_5 : decode cX5_at 5 = .ok (.astore 4, 2) := by decide +kernel
theorem dX5_at_7 : decode cX5_at 7 = .ok (.aload 4, 2) := by decide +kernel
theorem dX5_at_9 : decode cX5_at 9 = .ok (.ifnull 15, 3) := by decide +kernel
theorem dX5_at_12 : decode cX5_at 12 = .ok (.aload 4, 2) := by decide +kernel
theorem dX5_at_14 : decode cX5_at 14 = .ok (.getfield 93, 3) := by decide +kernel
theorem dX5_at_17 : decode cX5_at 17 = .ok (.iload_n 2, 1) := by decide +kernel
theorem dX5_at_18 : decode cX5_at 18 = .ok (.invokevirtual 96, 3) := by decide +kernel
theorem dX5_at_21 : decode cX5_at 21 = .ok (.ifCond .ne 6, 3) := by decide +kernel
theorem dX5_at_24 : decode cX5_at 24 = .ok (.bipush (-2), 2) := by decide +kernel
theorem dX5_at_26 : decode cX5_at 26 = .ok (.ireturn, 1) := by decide +kernel
theorem dX5_at_27 : decode cX5_at 27 = .ok (.iload_n 3, 1) := by decide +kernel
theorem dX5_at_28 : decode cX5_at 28 = .ok (.invokestatic 100, 3) := by decide +kernel
theorem dX5_at_31 : decode cX5_at 31 = .ok (.ifCond .ne 6, 3) := by decide +kernel
theorem dX5_at_34 : decode cX5_at 34 = .ok (.bipush (-3), 2) := by decide +kernel
theorem dX5_at_36 : decode cX5_at 36 = .ok (.ireturn, 1) := by decide +kernel
theorem dX5_at_37 : decode cX5_at 37 = .ok (.aload 4, 2) := by decide +kernel
theorem dX5_at_39 : decode cX5_at 39 = .ok (.getfield 93, 3) := by decide +kernel
theorem dX5_at_42 : decode cX5_at 42 = .ok (.iload_n 3, 1) := by decide +kernel
theorem dX5_at_43 : decode cX5_at 43 = .ok (.invokevirtual 103, 3) := by decide +kernel
theorem dX5_at_46 : decode cX5_at 46 = .ok (.iload_n 2, 1) := by decide +kernel
theorem dX5_at_47 : decode cX5_at 47 = .ok (.iaload, 1) := by decide +kernel
theorem dX5_at_48 : decode cX5_at 48 = .ok (.ireturn, 1) := by decide +kernel
set_option maxRecDepth 20000 in
theorem ggX5_area_X5_shapeOf : GoodIn wsX5_area wsX5_shapeOf := goodIn_r _ [6, 7, 8, 21, 22, 23, 24, 25, 26] (by decide +kernel) (by decide +kernel)
set_option maxRecDepth 20000 in
theorem gX5_area_X5_shapeOf : GoodIn wsX5_area (wsV RX5 89 RX5 yX5_shapeOf wsX5_shapeOf) := goodIn_app (goodIn_of _ (by decide +kernel)) ggX5_area_X5_shapeOf
theorem dX5_area_0 : decode cX5_area 0 = .ok (.aload_n 0, 1) := by decide +kernel
theorem dX5_area_1 : decode cX5_area 1 = .ok (.iload_n 1, 1) := by decide +kernel
theorem dX5_area_2 : decode cX5_area 2 = .ok (.invokevirtual 89, 3) := by decide +kernel
theorem dX5_area_5 : decode cX5_area 5 = .ok (.astore_n 2, 1) := by decide +kernel
theorem dX5_area_6 : decode cX5_area 6 = .ok (.aload_n 2, 1) := by decide +kernel
theorem dX5_area_7 : decode cX5_area 7 = .ok (.ifnonnull 7, 3) := by decide +kernel
theorem dX5_area_10 : decode cX5_area 10 = .ok (.iconst 0, 1) := by decide +kernel
theorem dX5_area_11 : decode cX5_area 11 = .ok (.goto 7, 3) := by decide +kernel
theorem dX5_area_14 : decode cX5_area 14 = .ok (.aload_n 2, 1) := by decide +kernel
theorem dX5_area_15 : decode cX5_area 15 = .ok (.getfield 107, 3) := by decide +kernel
theorem dX5_area_18 : decode cX5_area 18 = .ok (.ireturn, 1) := by decide +kernel
set_option maxRecDepth 20000 in
theorem ggX5_centroid_X5_shapeOf : GoodIn wsX5_centroid wsX5_shapeOf := goodIn_r _ [7, 8, 9, 57, 58, 59, 60, 61, 62] (by decide +kernel) (by decide +kernel)
set_option maxRecDepth 20000 in
theorem gX5_centroid_X5_shapeOf : GoodIn wsX5_centroid (wsV RX5 89 RX5 yX5_shapeOf wsX5_shapeOf) := goodIn_app (goodIn_of _ (by decide +kernel)) ggX5_centroid_X5_shapeOf
set_option maxRecDepth 20000 in
theorem ggX5_centroid_X5_isZeroOrOne : GoodIn wsX5_centroid wsX5_isZeroOrOne := goodIn_r _ [12] (by decide +kernel) (by decide +kernel)
set_option maxRecDepth 20000 in
theorem gX5_centroid_X5_isZeroOrOne : GoodIn wsX5_centroid (va_wsS RX5 100 yX5_isZeroOrOne wsX5_isZeroOrOne) := goodIn_app (goodIn_of _ (by decide +kernel)) ggX5_centroid_X5_isZeroOrOne
set_option maxRecDepth 20000 in
theorem ggX5_centroid_X3_centroidMoment : GoodIn wsX5_centroid wsX3_centroidMoment := goodIn_r _ [17, 18, 19, 20, 21, 22, 23, 24, 25, 26, 27, 28, 29, 30, 31, 32, 33, 34, 16, 35, 36, 37, 45, 46, 47, 48, 49, 50, 51, 52, 53, 54, 55, 56, 63, 64, 65] (by decide +kernel) (by decide +kernel)
set_option maxRecDepth 20000 in
theorem gX5_centroid_X3_centroidMoment : GoodIn wsX5_centroid (wsV RX5 110 RX3 yX3_centroidMoment wsX3_centroidMoment) := goodIn_app (goodIn_of _ (by decide +kernel)) ggX5_centroid_X3_centroidMoment
set_option maxRecDepth 20000 in
theorem ggX5_centroid_X5_greatestDivisor : GoodIn wsX5_centroid wsX5_greatestDivisor := goodIn_r _ [40, 41, 42, 43, 44] (by decide +kernel) (by decide +kernel)
set_option maxRecDepth 20000 in
theorem gX5_centroid_X5_greatestDivisor : GoodIn wsX5_centroid (va_wsS RX5 116 yX5_greatestDivisor wsX5_greatestDivisor) := goodIn_app (goodIn_of _ (by decide +kernel)) ggX5_centroid_X5_greatestDivisor
theorem dX5_centroid_0 : decode cX5_centroid 0 = .ok (.aload_n 0, 1) := by decide +kernel
theorem dX5_centroid_1 : decode cX5_centroid 1 = .ok (.iload_n 1, 1) := by decide +kernel
theorem dX5_centroid_2 : decode cX5_centroid 2 = .ok (.invokevirtual 89, 3) := by decide +kernel
theorem dX5_centroid_5 : decode cX5_centroid 5 = .ok (.astore 4, 2) := by decide +kernel
theorem dX5_centroid_7 : decode cX5_centroid 7 = .ok (.aload 4, 2) := by decide +kernel
theorem dX5_centroid_9 : decode cX5_centroid 9 = .ok (.ifnull 17, 3) := by decide +kernel
theorem dX5_centroid_12 : decode cX5_centroid 12 = .ok (.iload_n 2, 1) := by decide +kernel
theorem dX5_centroid_13 : decode cX5_centroid 13 = .ok (.invokestatic 100, 3) := by decide +kernel
theorem dX5_centroid_16 : decode cX5_centroid 16 = .ok (.ifCond .eq 10, 3) := by decide +kernel
theorem dX5_centroid_19 : decode cX5_centroid 19 = .ok (.iload_n 3, 1) := by decide +kernel
theorem dX5_centroid_20 : decode cX5_centroid 20 = .ok (.invokestatic 100, 3) := by decide +kernel
theorem dX5_centroid_23 : decode cX5_centroid 23 = .ok (.ifCond .ne 5, 3) := by decide +kernel
theorem dX5_centroid_26 : decode cX5_centroid 26 = .ok (.lconst 0, 1) := by decide +kernel
theorem dX5_centroid_27 : decode cX5_centroid 27 = .ok (.lreturn, 1) := by decide +kernel
theorem dX5_centroid_28 : decode cX5_centroid 28 = .ok (.aload 4, 2) := by decide +kernel
theorem dX5_centroid_30 : decode cX5_centroid 30 = .ok (.iload_n 2, 1) := by decide +kernel
theorem dX5_centroid_31 : decode cX5_centroid 31 = .ok (.invokevirtual 110, 3) := by decide +kernel
theorem dX5_centroid_34 : decode cX5_centroid 34 = .ok (.lstore 5, 2) := by decide +kernel
theorem dX5_centroid_36 : decode cX5_centroid 36 = .ok (.ldc2_w 114, 3) := by decide +kernel
theorem dX5_centroid_39 : decode cX5_centroid 39 = .ok (.aload 4, 2) := by decide +kernel
theorem dX5_centroid_41 : decode cX5_centroid 41 = .ok (.getfield 107, 3) := by decide +kernel
theorem dX5_centroid_44 : decode cX5_centroid 44 = .ok (.i2l, 1) := by decide +kernel
theorem dX5_centroid_45 : decode cX5_centroid 45 = .ok (.lmul, 1) := by decide +kernel
theorem dX5_centroid_46 : decode cX5_centroid 46 = .ok (.lstore 7, 2) := by decide +kernel
theorem dX5_centroid_48 : decode cX5_centroid 48 = .ok (.lload 5, 2) := by decide +kernel
theorem dX5_centroid_50 : decode cX5_centroid 50 = .ok (.lload 7, 2) := by decide +kernel
theorem dX5_centroid_52 : decode cX5_centroid 52 = .ok (.invokestatic 116, 3) := by decide +kernel
theorem dX5_centroid_55 : decode cX5_centroid 55 = .ok (.lstore 9, 2) := by decide +kernel
theorem dX5_centroid_57 : decode cX5_centroid 57 = .ok (.lload 9, 2) := by decide +kernel
theorem dX5_centroid_59 : decode cX5_centroid 59 = .ok (.lconst 0, 1) := by decide +kernel
theorem dX5_centroid_60 : decode cX5_centroid 60 = .ok (.lcmp, 1) := by decide +kernel
theorem dX5_centroid_61 : decode cX5_centroid 61 = .ok (.ifCond .ne 5, 3) := by decide +kernel
theorem dX5_centroid_64 : decode cX5_centroid 64 = .ok (.lconst 0, 1) := by decide +kernel
theorem dX5_centroid_65 : decode cX5_centroid 65 = .ok (.lreturn, 1) := by decide +kernel
theorem dX5_centroid_66 : decode cX5_centroid 66 = .ok (.lload 7, 2) := by decide +kernel
theorem dX5_centroid_68 : decode cX5_centroid 68 = .ok (.lconst 0, 1) := by decide +kernel
theorem dX5_centroid_69 : decode cX5_centroid 69 = .ok (.lcmp, 1) := by decide +kernel
theorem dX5_centroid_70 : decode cX5_centroid 70 = .ok (.ifCond .ge 9, 3) := by decide +kernel
theorem dX5_centroid_73 : decode cX5_centroid 73 = .ok (.lload 9, 2) := by decide +kernel
theorem dX5_centroid_75 : decode cX5_centroid 75 = .ok (.lneg, 1) := by decide +kernel
theorem dX5_centroid_76 : decode cX5_centroid 76 = .ok (.goto 5, 3) := by decide +kernel
theorem dX5_centroid_79 : decode cX5_centroid 79 = .ok (.lload 9, 2) := by decide +kernel
theorem dX5_centroid_81 : decode cX5_centroid 81 = .ok (.lstore 11, 2) := by decide +kernel
theorem dX5_centroid_83 : decode cX5_centroid 83 = .ok (.iload_n 3, 1) := by decide +kernel
theorem dX5_centroid_84 : decode cX5_centroid 84 = .ok (.ifCond .ne 8, 3) := by decide +kernel
theorem dX5_centroid_87 : decode cX5_centroid 87 = .ok (.lload 5, 2) := by decide +kernel
theorem dX5_centroid_89 : decode cX5_centroid 89 = .ok (.goto 5, 3) := by decide +kernel
theorem dX5_centroid_92 : decode cX5_centroid 92 = .ok (.lload 7, 2) := by decide +kernel
theorem dX5_centroid_94 : decode cX5_centroid 94 = .ok (.lload 11, 2) := by decide +kernel
theorem dX5_centroid_96 : decode cX5_centroid 96 = .ok (.ldiv, 1) := by decide +kernel
theorem dX5_centroid_97 : decode cX5_centroid 97 = .ok (.lreturn, 1) := by decide +kernel
set_option maxRecDepth 20000 in
theorem ggX5_points_X5_shapeOf : GoodIn wsX5_points wsX5_shapeOf := goodIn_r _ [10, 11, 12, 48, 49, 50, 51, 52, 53] (by decide +kernel) (by decide +kernel)
set_option maxRecDepth 20000 in
theorem gX5_points_X5_shapeOf : GoodIn wsX5_points (wsV RX5 89 RX5 yX5_shapeOf wsX5_shapeOf) := goodIn_app (goodIn_of _ (by decide +kernel)) ggX5_points_X5_shapeOf
set_option maxRecDepth 20000 in
theorem ggX5_points_X5_isZeroOrOne : GoodIn wsX5_points wsX5_isZeroOrOne := goodIn_r _ [15] (by decide +kernel) (by decide +kernel)
set_option maxRecDepth 20000 in
theorem gX5_points_X5_isZeroOrOne : GoodIn wsX5_points (va_wsS RX5 100 yX5_isZeroOrOne wsX5_isZeroOrOne) := goodIn_app (goodIn_of _ (by decide +kernel)) ggX5_points_X5_isZeroOrOne
set_option maxRecDepth 20000 in
theorem ggX5_points_X3_pointsOnEdges : GoodIn wsX5_points wsX3_pointsOnEdges := goodIn_r _ [20, 21, 22, 23, 24, 25, 26, 27, 28, 29, 30, 31, 9, 32, 33, 34, 4, 35, 36, 37, 38, 39, 40, 41, 42, 43, 44, 45, 46, 47, 54, 55, 56] (by decide +kernel) (by decide +kernel)
set_option maxRecDepth 20000 in
theorem gX5_points_X3_pointsOnEdges : GoodIn wsX5_points (wsV RX5 120 RX3 yX3_pointsOnEdges wsX3_pointsOnEdges) := goodIn_app (goodIn_of _ (by decide +kernel)) ggX5_points_X3_pointsOnEdges
theorem dX5_points_0 : decode cX5_points 0 = .ok (.aload_n 0, 1) := by decide +kernel
theorem dX5_points_1 : decode cX5_points 1 = .ok (.iload_n 1, 1) := by decide +kernel
theorem dX5_points_2 : decode cX5_points 2 = .ok (.invokevirtual 89, 3) := by decide +kernel
theorem dX5_points_5 : decode cX5_points 5 = .ok (.astore_n 3, 1) := by decide +kernel
theorem dX5_points_6 : decode cX5_points 6 = .ok (.aload_n 3, 1) := by decide +kernel
theorem dX5_points_7 : decode cX5_points 7 = .ok (.ifnonnull 6, 3) := by decide +kernel
theorem dX5_points_10 : decode cX5_points 10 = .ok (.bipush (-2), 2) := by decide +kernel
theorem dX5_points_12 : decode cX5_points 12 = .ok (.ireturn, 1) := by decide +kernel
theorem dX5_points_13 : decode cX5_points 13 = .ok (.iload_n 2, 1) := by decide +kernel
theorem dX5_points_14 : decode cX5_points 14 = .ok (.invokestatic 100, 3) := by decide +kernel
theorem dX5_points_17 : decode cX5_points 17 = .ok (.ifCond .ne 6, 3) := by decide +kernel
theorem dX5_points_20 : decode cX5_points 20 = .ok (.bipush (-3), 2) := by decide +kernel
theorem dX5_points_22 : decode cX5_points 22 = .ok (.ireturn, 1) := by decide +kernel
theorem dX5_points_23 : decode cX5_points 23 = .ok (.aload_n 3, 1) := by decide +kernel
theorem dX5_points_24 : decode cX5_points 24 = .ok (.invokevirtual 120, 3) := by decide +kernel
theorem dX5_points_27 : decode cX5_points 27 = .ok (.istore 4, 2) := by decide +kernel
theorem dX5_points_29 : decode cX5_points 29 = .ok (.iload_n 2, 1) := by decide +kernel
theorem dX5_points_30 : decode cX5_points 30 = .ok (.ifCond .ne 8, 3) := by decide +kernel
theorem dX5_points_33 : decode cX5_points 33 = .ok (.iload 4, 2) := by decide +kernel
theorem dX5_points_35 : decode cX5_points 35 = .ok (.goto 17, 3) := by decide +kernel
theorem dX5_points_38 : decode cX5_points 38 = .ok (.aload_n 3, 1) := by decide +kernel
theorem dX5_points_39 : decode cX5_points 39 = .ok (.getfield 107, 3) := by decide +kernel
theorem dX5_points_42 : decode cX5_points 42 = .ok (.invokestatic 124, 3) := by decide +kernel
theorem dX5_points_45 : decode cX5_points 45 = .ok (.iload 4, 2) := by decide +kernel
theorem dX5_points_47 : decode cX5_points 47 = .ok (.isub, 1) := by decide +kernel
theorem dX5_points_48 : decode cX5_points 48 = .ok (.iconst 2, 1) := by decide +kernel
theorem dX5_points_49 : decode cX5_points 49 = .ok (.iadd, 1) := by decide +kernel
theorem dX5_points_50 : decode cX5_points 50 = .ok (.iconst 2, 1) := by decide +kernel
theorem dX5_points_51 : decode cX5_points 51 = .ok (.idiv, 1) := by decide +kernel
theorem dX5_points_52 : decode cX5_points 52 = .ok (.ireturn, 1) := by decide +kernel
set_option maxRecDepth 20000 in
theorem ggX5_in_X5_shapeOf : GoodIn wsX5_in wsX5_shapeOf := goodIn_r _ [5, 6, 7, 26, 27, 28, 29, 30, 31] (by decide +kernel) (by decide +kernel)
set_option maxRecDepth 20000 in
theorem gX5_in_X5_shapeOf : GoodIn wsX5_in (wsV RX5 89 RX5 yX5_shapeOf wsX5_shapeOf) := goodIn_app (goodIn_of _ (by decide +kernel)) ggX5_in_X5_shapeOf
set_option maxRecDepth 20000 in
theorem ggX5_in_X5_isWithin : GoodIn wsX5_in wsX5_isWithin := goodIn_r _ [10] (by decide +kernel) (by decide +kernel)
set_option maxRecDepth 20000 in
theorem gX5_in_X5_isWithin : GoodIn wsX5_in (va_wsS RX5 48 yX5_isWithin wsX5_isWithin) := goodIn_app (goodIn_of _ (by decide +kernel)) ggX5_in_X5_isWithin
set_option maxRecDepth 20000 in
theorem ggX5_in_X3_placeOf : GoodIn wsX5_in wsX3_placeOf := goodIn_r _ [15, 16, 17, 18, 19, 20, 21, 22, 23, 24, 25, 32, 33, 34, 35, 36, 37, 38, 39, 40, 41, 42, 43, 44, 45, 46] (by decide +kernel) (by decide +kernel)
set_option maxRecDepth 20000 in
theorem gX5_in_X3_placeOf : GoodIn wsX5_in (wsV RX5 130 RX3 yX3_placeOf wsX3_placeOf) := goodIn_app (goodIn_of _ (by decide +kernel)) ggX5_in_X3_placeOf
theorem dX5_in_0 : decode cX5_in 0 = .ok (.aload_n 0, 1) := by decide +kernel
theorem dX5_in_1 : decode cX5_in 1 = .ok (.iload_n 1, 1) := by decide +kernel
theorem dX5_in_2 : decode cX5_in 2 = .ok (.invokevirtual 89, 3) := by decide +kernel
theorem dX5_in_5 : decode cX5_in 5 = .ok (.astore 4, 2) := by decide +kernel
theorem dX5_in_7 : decode cX5_in 7 = .ok (.aload 4, 2) := by decide +kernel
theorem dX5_in_9 : decode cX5_in 9 = .ok (.ifnonnull 6, 3) := by decide +kernel
theorem dX5_in_12 : decode cX5_in 12 = .ok (.bipush (-2), 2) := by decide +kernel
theorem dX5_in_14 : decode cX5_in 14 = .ok (.ireturn, 1) := by decide +kernel
theorem dX5_in_15 : decode cX5_in 15 = .ok (.iload_n 2, 1) := by decide +kernel
theorem dX5_in_16 : decode cX5_in 16 = .ok (.sipush 3000, 3) := by decide +kernel
theorem dX5_in_19 : decode cX5_in 19 = .ok (.invokestatic 48, 3) := by decide +kernel
theorem dX5_in_22 : decode cX5_in 22 = .ok (.ifCond .eq 13, 3) := by decide +kernel
theorem dX5_in_25 : decode cX5_in 25 = .ok (.iload_n 3, 1) := by decide +kernel
theorem dX5_in_26 : decode cX5_in 26 = .ok (.sipush 3000, 3) := by decide +kernel
theorem dX5_in_29 : decode cX5_in 29 = .ok (.invokestatic 48, 3) := by decide +kernel
theorem dX5_in_32 : decode cX5_in 32 = .ok (.ifCond .ne 6, 3) := by decide +kernel
theorem dX5_in_35 : decode cX5_in 35 = .ok (.bipush (-3), 2) := by decide +kernel
theorem dX5_in_37 : decode cX5_in 37 = .ok (.ireturn, 1) := by decide +kernel
theorem dX5_in_38 : decode cX5_in 38 = .ok (.aload 4, 2) := by decide +kernel
theorem dX5_in_40 : decode cX5_in 40 = .ok (.iload_n 2, 1) := by decide +kernel
theorem dX5_in_41 : decode cX5_in 41 = .ok (.iload_n 3, 1) := by decide +kernel
theorem dX5_in_42 : decode cX5_in 42 = .ok (.iconst 1, 1) := by decide +kernel
theorem dX5_in_43 : decode cX5_in 43 = .ok (.invokevirtual 130, 3) := by decide +kernel
theorem dX5_in_46 : decode cX5_in 46 = .ok (.ireturn, 1) := by decide +kernel
set_option maxRecDepth 20000 in
theorem ggX5_sees_X5_shapeOf : GoodIn wsX5_sees wsX5_shapeOf := goodIn_r _ [7, 8, 9, 28, 29, 30, 31, 32, 33] (by decide +kernel) (by decide +kernel)
set_option maxRecDepth 20000 in
theorem gX5_sees_X5_shapeOf : GoodIn wsX5_sees (wsV RX5 89 RX5 yX5_shapeOf wsX5_shapeOf) := goodIn_app (goodIn_of _ (by decide +kernel)) ggX5_sees_X5_shapeOf
set_option maxRecDepth 20000 in
theorem ggX5_sees_X1_has : GoodIn wsX5_sees wsX1_has := goodIn_r _ [14, 15, 34, 35, 36] (by decide +kernel) (by decide +kernel)
set_option maxRecDepth 20000 in
theorem gX5_sees_X1_has : GoodIn wsX5_sees (wsV RX5 96 RX1 yX1_has wsX1_has) := goodIn_app (goodIn_of _ (by decide +kernel)) ggX5_sees_X1_has
theorem dX5_sees_0 : decode cX5_sees 0 = .ok (.aload_n 0, 1) := by decide +kernel
theorem dX5_sees_1 : decode cX5_sees 1 = .ok (.iload_n 1, 1) := by decide +kernel
theorem dX5_sees_2 : decode cX5_sees 2 = .ok (.invokevirtual 89, 3) := by decide +kernel
theorem dX5_sees_5 : decode cX5_sees 5 = .ok (.astore 4, 2) := by decide +kernel
theorem dX5_sees_7 : decode cX5_sees 7 = .ok (.aload 4, 2) := by decide +kernel
theorem dX5_sees_9 : decode cX5_sees 9 = .ok (.ifnull 27, 3) := by decide +kernel
theorem dX5_sees_12 : decode cX5_sees 12 = .ok (.aload 4, 2) := by decide +kernel
theorem dX5_sees_14 : decode cX5_sees 14 = .ok (.getfield 93, 3) := by decide +kernel
theorem dX5_sees_17 : decode cX5_sees 17 = .ok (.iload_n 2, 1) := by decide +kernel
theorem dX5_sees_18 : decode cX5_sees 18 = .ok (.invokevirtual 96, 3) := by decide +kernel
theorem dX5_sees_21 : decode cX5_sees 21 = .ok (.ifCond .eq 15, 3) := by decide +kernel
theorem dX5_sees_24 : decode cX5_sees 24 = .ok (.aload 4, 2) := by decide +kernel
theorem dX5_sees_26 : decode cX5_sees 26 = .ok (.getfield 93, 3) := by decide +kernel
theorem dX5_sees_29 : decode cX5_sees 29 = .ok (.iload_n 3, 1) := by decide +kernel
theorem dX5_sees_30 : decode cX5_sees 30 = .ok (.invokevirtual 96, 3) := by decide +kernel
theorem dX5_sees_33 : decode cX5_sees 33 = .ok (.ifCond .ne 6, 3) := by decide +kernel
theorem dX5_sees_36 : decode cX5_sees 36 = .ok (.bipush (-2), 2) := by decide +kernel
theorem dX5_sees_38 : decode cX5_sees 38 = .ok (.ireturn, 1) := by decide +kernel
theorem dX5_sees_39 : decode cX5_sees 39 = .ok (.iload_n 2, 1) := by decide +kernel
theorem dX5_sees_40 : decode cX5_sees 40 = .ok (.iload_n 3, 1) := by decide +kernel
theorem dX5_sees_41 : decode cX5_sees 41 = .ok (.if_icmp .ne 8, 3) := by decide +kernel
theorem dX5_sees_44 : decode cX5_sees 44 = .ok (.bipush (-3), 2) := by decide +kernel
theorem dX5_sees_46 : decode cX5_sees 46 = .ok (.goto 12, 3) := by decide +kernel
theorem dX5_sees_49 : decode cX5_sees 49 = .ok (.aload 4, 2) := by decide +kernel
theorem dX5_sees_51 : decode cX5_sees 51 = .ok (.getfield 134, 3) := by decide +kernel
theorem dX5_sees_54 : decode cX5_sees 54 = .ok (.iload_n 2, 1) := by decide +kernel
theorem dX5_sees_55 : decode cX5_sees 55 = .ok (.aaload, 1) := by decide +kernel
theorem dX5_sees_56 : decode cX5_sees 56 = .ok (.iload_n 3, 1) := by decide +kernel
theorem dX5_sees_57 : decode cX5_sees 57 = .ok (.iaload, 1) := by decide +kernel
theorem dX5_sees_58 : decode cX5_sees 58 = .ok (.ireturn, 1) := by decide +kernel
set_option maxRecDepth 20000 in
theorem ggX5_way_X5_shapeOf : GoodIn wsX5_way wsX5_shapeOf := goodIn_r _ [8, 9, 10, 42, 43, 44, 45, 46, 47] (by decide +kernel) (by decide +kernel)
set_option maxRecDepth 20000 in
theorem gX5_way_X5_shapeOf : GoodIn wsX5_way (wsV RX5 89 RX5 yX5_shapeOf wsX5_shapeOf) := goodIn_app (goodIn_of _ (by decide +kernel)) ggX5_way_X5_shapeOf
set_option maxRecDepth 20000 in
theorem ggX5_way_X1_has : GoodIn wsX5_way wsX1_has := goodIn_r _ [15, 16, 49, 50, 51] (by decide +kernel) (by decide +kernel)
set_option maxRecDepth 20000 in
theorem gX5_way_X1_has : GoodIn wsX5_way (wsV RX5 96 RX1 yX1_has wsX1_has) := goodIn_app (goodIn_of _ (by decide +kernel)) ggX5_way_X1_has
set_option maxRecDepth 20000 in
theorem ggX5_way_X4_measure : GoodIn wsX5_way wsX4_measure := goodIn_r _ [21, 22, 23, 24, 25, 26, 27, 20, 28, 29, 30, 31, 32, 33, 34, 35, 36, 37, 38, 39, 40, 41, 49, 50, 51, 48] (by decide +kernel) (by decide +kernel)
set_option maxRecDepth 20000 in
theorem gX5_way_X4_measure : GoodIn wsX5_way (wsV RX5 138 RX4 yX4_measure wsX4_measure) := goodIn_app (goodIn_of _ (by decide +kernel)) ggX5_way_X4_measure
theorem dX5_way_0 : decode cX5_way 0 = .ok (.aload_n 0, 1) := by decide +kernel
theorem dX5_way_1 : decode cX5_way 1 = .ok (.iload_n 1, 1) := by decide +kernel
theorem dX5_way_2 : decode cX5_way 2 = .ok (.invokevirtual 89, 3) := by decide +kernel
theorem dX5_way_5 : decode cX5_way 5 = .ok (.astore 4, 2) := by decide +kernel
theorem dX5_way_7 : decode cX5_way 7 = .ok (.aload 4, 2) := by decide +kernel
theorem dX5_way_9 : decode cX5_way 9 = .ok (.ifnull 27, 3) := by decide +kernel
theorem dX5_way_12 : decode cX5_way 12 = .ok (.aload 4, 2) := by decide +kernel
theorem dX5_way_14 : decode cX5_way 14 = .ok (.getfield 93, 3) := by decide +kernel
theorem dX5_way_17 : decode cX5_way 17 = .ok (.iload_n 2, 1) := by decide +kernel
theorem dX5_way_18 : decode cX5_way 18 = .ok (.invokevirtual 96, 3) := by decide +kernel
theorem dX5_way_21 : decode cX5_way 21 = .ok (.ifCond .eq 15, 3) := by decide +kernel
theorem dX5_way_24 : decode cX5_way 24 = .ok (.aload 4, 2) := by decide +kernel
theorem dX5_way_26 : decode cX5_way 26 = .ok (.getfield 93, 3) := by decide +kernel
theorem dX5_way_29 : decode cX5_way 29 = .ok (.iload_n 3, 1) := by decide +kernel
theorem dX5_way_30 : decode cX5_way 30 = .ok (.invokevirtual 96, 3) := by decide +kernel
theorem dX5_way_33 : decode cX5_way 33 = .ok (.ifCond .ne 6, 3) := by decide +kernel
theorem dX5_way_36 : decode cX5_way 36 = .ok (.bipush (-2), 2) := by decide +kernel
theorem dX5_way_38 : decode cX5_way 38 = .ok (.ireturn, 1) := by decide +kernel
theorem dX5_way_39 : decode cX5_way 39 = .ok (.aload_n 0, 1) := by decide +kernel
theorem dX5_way_40 : decode cX5_way 40 = .ok (.getfield 33, 3) := by decide +kernel
theorem dX5_way_43 : decode cX5_way 43 = .ok (.aload 4, 2) := by decide +kernel
theorem dX5_way_45 : decode cX5_way 45 = .ok (.iload_n 3, 1) := by decide +kernel
theorem dX5_way_46 : decode cX5_way 46 = .ok (.invokevirtual 138, 3) := by decide +kernel
theorem dX5_way_49 : decode cX5_way 49 = .ok (.aload_n 0, 1) := by decide +kernel
theorem dX5_way_50 : decode cX5_way 50 = .ok (.getfield 33, 3) := by decide +kernel
theorem dX5_way_53 : decode cX5_way 53 = .ok (.getfield 142, 3) := by decide +kernel
theorem dX5_way_56 : decode cX5_way 56 = .ok (.iload_n 2, 1) := by decide +kernel
theorem dX5_way_57 : decode cX5_way 57 = .ok (.iaload, 1) := by decide +kernel
theorem dX5_way_58 : decode cX5_way 58 = .ok (.ireturn, 1) := by decide +kernel
set_option maxRecDepth 20000 in
theorem ggX5_step_X5_shapeOf : GoodIn wsX5_step wsX5_shapeOf := goodIn_r _ [7, 8, 9, 45, 46, 47, 48, 49, 50] (by decide +kernel) (by decide +kernel)
set_option maxRecDepth 20000 in
theorem gX5_step_X5_shapeOf : GoodIn wsX5_step (wsV RX5 89 RX5 yX5_shapeOf wsX5_shapeOf) := goodIn_app (goodIn_of _ (by decide +kernel)) ggX5_step_X5_shapeOf
set_option maxRecDepth 20000 in
theorem ggX5_step_X1_has : GoodIn wsX5_step wsX1_has := goodIn_r _ [14, 15, 51, 52, 53] (by decide +kernel) (by decide +kernel)
set_option maxRecDepth 20000 in
theorem gX5_step_X1_has : GoodIn wsX5_step (wsV RX5 96 RX1 yX1_has wsX1_has) := goodIn_app (goodIn_of _ (by decide +kernel)) ggX5_step_X1_has
set_option maxRecDepth 20000 in
theorem ggX5_step_X4_measure : GoodIn wsX5_step wsX4_measure := goodIn_r _ [20, 21, 22, 23, 24, 25, 26, 19, 27, 28, 33, 34, 35, 36, 37, 38, 39, 40, 41, 42, 43, 44, 51, 52, 53, 54] (by decide +kernel) (by decide +kernel)
set_option maxRecDepth 20000 in
theorem gX5_step_X4_measure : GoodIn wsX5_step (wsV RX5 138 RX4 yX4_measure wsX4_measure) := goodIn_app (goodIn_of _ (by decide +kernel)) ggX5_step_X4_measure
set_option maxRecDepth 20000 in
theorem ggX5_step_X4_cornerAfter : GoodIn wsX5_step wsX4_cornerAfter := goodIn_r _ [32, 23, 24, 25, 26, 19, 27, 21, 22, 28, 54, 33, 34, 35, 36, 37, 38, 39, 40, 41, 42, 43, 44, 51, 52, 53] (by decide +kernel) (by decide +kernel)
set_option maxRecDepth 20000 in
theorem gX5_step_X4_cornerAfter : GoodIn wsX5_step (wsV RX5 146 RX4 yX4_cornerAfter wsX4_cornerAfter) := goodIn_app (goodIn_of _ (by decide +kernel)) ggX5_step_X4_cornerAfter
theorem dX5_step_0 : decode cX5_step 0 = .ok (.aload_n 0, 1) := by decide +kernel
theorem dX5_step_1 : decode cX5_step 1 = .ok (.iload_n 1, 1) := by decide +kernel
theorem dX5_step_2 : decode cX5_step 2 = .ok (.invokevirtual 89, 3) := by decide +kernel
theorem dX5_step_5 : decode cX5_step 5 = .ok (.astore 5, 2) := by decide +kernel
theorem dX5_step_7 : decode cX5_step 7 = .ok (.aload 5, 2) := by decide +kernel
theorem dX5_step_9 : decode cX5_step 9 = .ok (.ifnull 27, 3) := by decide +kernel
theorem dX5_step_12 : decode cX5_step 12 = .ok (.aload 5, 2) := by decide +kernel
theorem dX5_step_14 : decode cX5_step 14 = .ok (.getfield 93, 3) := by decide +kernel
theorem dX5_step_17 : decode cX5_step 17 = .ok (.iload_n 2, 1) := by decide +kernel
theorem dX5_step_18 : decode cX5_step 18 = .ok (.invokevirtual 96, 3) := by decide +kernel
theorem dX5_step_21 : decode cX5_step 21 = .ok (.ifCond .eq 15, 3) := by decide +kernel
theorem dX5_step_24 : decode cX5_step 24 = .ok (.aload 5, 2) := by decide +kernel
theorem dX5_step_26 : decode cX5_step 26 = .ok (.getfield 93, 3) := by decide +kernel
theorem dX5_step_29 : decode cX5_step 29 = .ok (.iload_n 3, 1) := by decide +kernel
theorem dX5_step_30 : decode cX5_step 30 = .ok (.invokevirtual 96, 3) := by decide +kernel
theorem dX5_step_33 : decode cX5_step 33 = .ok (.ifCond .ne 6, 3) := by decide +kernel
theorem dX5_step_36 : decode cX5_step 36 = .ok (.bipush (-2), 2) := by decide +kernel
theorem dX5_step_38 : decode cX5_step 38 = .ok (.ireturn, 1) := by decide +kernel
theorem dX5_step_39 : decode cX5_step 39 = .ok (.aload_n 0, 1) := by decide +kernel
theorem dX5_step_40 : decode cX5_step 40 = .ok (.getfield 33, 3) := by decide +kernel
theorem dX5_step_43 : decode cX5_step 43 = .ok (.aload 5, 2) := by decide +kernel
theorem dX5_step_45 : decode cX5_step 45 = .ok (.iload_n 3, 1) := by decide +kernel
theorem dX5_step_46 : decode cX5_step 46 = .ok (.invokevirtual 138, 3) := by decide +kernel
theorem dX5_step_49 : decode cX5_step 49 = .ok (.aload_n 0, 1) := by decide +kernel
theorem dX5_step_50 : decode cX5_step 50 = .ok (.getfield 33, 3) := by decide +kernel
theorem dX5_step_53 : decode cX5_step 53 = .ok (.aload 5, 2) := by decide +kernel
theorem dX5_step_55 : decode cX5_step 55 = .ok (.iload_n 2, 1) := by decide +kernel
theorem dX5_step_56 : decode cX5_step 56 = .ok (.iload 4, 2) := by decide +kernel
theorem dX5_step_58 : decode cX5_step 58 = .ok (.invokevirtual 146, 3) := by decide +kernel
theorem dX5_step_61 : decode cX5_step 61 = .ok (.ireturn, 1) := by decide +kernel
set_option maxRecDepth 20000 in
theorem ggX5_triangulations_X5_shapeOf : GoodIn wsX5_triangulations wsX5_shapeOf := goodIn_r _ [6, 7, 8, 21, 22, 23, 24, 25, 26] (by decide +kernel) (by decide +kernel)
set_option maxRecDepth 20000 in
theorem gX5_triangulations_X5_shapeOf : GoodIn wsX5_triangulations (wsV RX5 89 RX5 yX5_shapeOf wsX5_shapeOf) := goodIn_app (goodIn_of _ (by decide +kernel)) ggX5_triangulations_X5_shapeOf
theorem dX5_triangulations_0 : decode cX5_triangulations 0 = .ok (.aload_n 0, 1) := by decide +kernel
theorem dX5_triangulations_1 : decode cX5_triangulations 1 = .ok (.iload_n 1, 1) := by decide +kernel
theorem dX5_triangulations_2 : decode cX5_triangulations 2 = .ok (.invokevirtual 89, 3) := by decide +kernel
theorem dX5_triangulations_5 : decode cX5_triangulations 5 = .ok (.astore_n 2, 1) := by decide +kernel
theorem dX5_triangulations_6 : decode cX5_triangulations 6 = .ok (.aload_n 2, 1) := by decide +kernel
theorem dX5_triangulations_7 : decode cX5_triangulations 7 = .ok (.ifnonnull 8, 3) := by decide +kernel
theorem dX5_triangulations_10 : decode cX5_triangulations 10 = .ok (.bipush (-2), 2) := by decide +kernel
theorem dX5_triangulations_12 : decode cX5_triangulations 12 = .ok (.goto 7, 3) := by decide +kernel
theorem dX5_triangulations_15 : decode cX5_triangulations 15 = .ok (.aload_n 2, 1) := by decide +kernel
theorem dX5_triangulations_16 : decode cX5_triangulations 16 = .ok (.getfield 150, 3) := by decide +kernel
theorem dX5_triangulations_19 : decode cX5_triangulations 19 = .ok (.ireturn, 1) := by decide +kernel
set_option maxRecDepth 20000 in
theorem ggX5_best_X5_shapeOf : GoodIn wsX5_best wsX5_shapeOf := goodIn_r _ [6, 7, 8, 21, 22, 23, 24, 25, 26] (by decide +kernel) (by decide +kernel)
set_option maxRecDepth 20000 in
theorem gX5_best_X5_shapeOf : GoodIn wsX5_best (wsV RX5 89 RX5 yX5_shapeOf wsX5_shapeOf) := goodIn_app (goodIn_of _ (by decide +kernel)) ggX5_best_X5_shapeOf
theorem dX5_best_0 : decode cX5_best 0 = .ok (.aload_n 0, 1) := by decide +kernel
theorem dX5_best_1 : decode cX5_best 1 = .ok (.iload_n 1, 1) := by decide +kernel
theorem dX5_best_2 : decode cX5_best 2 = .ok (.invokevirtual 89, 3) := by decide +kernel
theorem dX5_best_5 : decode cX5_best 5 = .ok (.astore_n 2, 1) := by decide +kernel
theorem dX5_best_6 : decode cX5_best 6 = .ok (.aload_n 2, 1) := by decide +kernel
theorem dX5_best_7 : decode cX5_best 7 = .ok (.ifnonnull 8, 3) := by decide +kernel
theorem dX5_best_10 : decode cX5_best 10 = .ok (.bipush (-2), 2) := by decide +kernel
theorem dX5_best_12 : decode cX5_best 12 = .ok (.goto 7, 3) := by decide +kernel
theorem dX5_best_15 : decode cX5_best 15 = .ok (.aload_n 2, 1) := by decide +kernel
theorem dX5_best_16 : decode cX5_best 16 = .ok (.getfield 153, 3) := by decide +kernel
theorem dX5_best_19 : decode cX5_best 19 = .ok (.ireturn, 1) := by decide +kernel
set_option maxRecDepth 20000 in
theorem ggX5_triangle_X5_shapeOf : GoodIn wsX5_triangle wsX5_shapeOf := goodIn_r _ [8, 9, 10, 30, 31, 32, 33, 34, 35] (by decide +kernel) (by decide +kernel)
set_option maxRecDepth 20000 in
theorem gX5_triangle_X5_shapeOf : GoodIn wsX5_triangle (wsV RX5 89 RX5 yX5_shapeOf wsX5_shapeOf) := goodIn_app (goodIn_of _ (by decide +kernel)) ggX5_triangle_X5_shapeOf
set_option maxRecDepth 20000 in
theorem ggX5_triangle_X3_triangleCount : GoodIn wsX5_triangle wsX3_triangleCount := goodIn_r _ [15, 16, 17, 18, 19, 20, 21, 22, 23, 24, 25, 26, 27, 28, 29, 36, 37, 38] (by decide +kernel) (by decide +kernel)
set_option maxRecDepth 20000 in
theorem gX5_triangle_X3_triangleCount : GoodIn wsX5_triangle (wsV RX5 156 RX3 yX3_triangleCount wsX3_triangleCount) := goodIn_app (goodIn_of _ (by decide +kernel)) ggX5_triangle_X3_triangleCount
theorem dX5_triangle_0 : decode cX5_triangle 0 = .ok (.aload_n 0, 1) := by decide +kernel
theorem dX5_triangle_1 : decode cX5_triangle 1 = .ok (.iload_n 1, 1) := by decide +kernel
theorem dX5_triangle_2 : decode cX5_triangle 2 = .ok (.invokevirtual 89, 3) := by decide +kernel
theorem dX5_triangle_5 : decode cX5_triangle 5 = .ok (.astore 4, 2) := by decide +kernel
theorem dX5_triangle_7 : decode cX5_triangle 7 = .ok (.aload 4, 2) := by decide +kernel
theorem dX5_triangle_9 : decode cX5_triangle 9 = .ok (.ifnonnull 6, 3) := by decide +kernel
theorem dX5_triangle_12 : decode cX5_triangle 12 = .ok (.bipush (-2), 2) := by decide +kernel
theorem dX5_triangle_14 : decode cX5_triangle 14 = .ok (.ireturn, 1) := by decide +kernel
theorem dX5_triangle_15 : decode cX5_triangle 15 = .ok (.iload_n 3, 1) := by decide +kernel
theorem dX5_triangle_16 : decode cX5_triangle 16 = .ok (.ifCond .lt 8, 3) := by decide +kernel
theorem dX5_triangle_19 : decode cX5_triangle 19 = .ok (.iload_n 3, 1) := by decide +kernel
theorem dX5_triangle_20 : decode cX5_triangle 20 = .ok (.iconst 2, 1) := by decide +kernel
theorem dX5_triangle_21 : decode cX5_triangle 21 = .ok (.if_icmp .le 6, 3) := by decide +kernel
theorem dX5_triangle_24 : decode cX5_triangle 24 = .ok (.bipush (-3), 2) := by decide +kernel
theorem dX5_triangle_26 : decode cX5_triangle 26 = .ok (.ireturn, 1) := by decide +kernel
theorem dX5_triangle_27 : decode cX5_triangle 27 = .ok (.iload_n 2, 1) := by decide +kernel
theorem dX5_triangle_28 : decode cX5_triangle 28 = .ok (.ifCond .lt 12, 3) := by decide +kernel
theorem dX5_triangle_31 : decode cX5_triangle 31 = .ok (.iload_n 2, 1) := by decide +kernel
theorem dX5_triangle_32 : decode cX5_triangle 32 = .ok (.aload 4, 2) := by decide +kernel
theorem dX5_triangle_34 : decode cX5_triangle 34 = .ok (.invokevirtual 156, 3) := by decide +kernel
theorem dX5_triangle_37 : decode cX5_triangle 37 = .ok (.if_icmp .lt 5, 3) := by decide +kernel
theorem dX5_triangle_40 : decode cX5_triangle 40 = .ok (.iconst (-1), 1) := by decide +kernel
theorem dX5_triangle_41 : decode cX5_triangle 41 = .ok (.ireturn, 1) := by decide +kernel
theorem dX5_triangle_42 : decode cX5_triangle 42 = .ok (.iload_n 3, 1) := by decide +kernel
theorem dX5_triangle_43 : decode cX5_triangle 43 = .ok (.iconst 1, 1) := by decide +kernel
theorem dX5_triangle_44 : decode cX5_triangle 44 = .ok (.if_icmp .ne 11, 3) := by decide +kernel
theorem dX5_triangle_47 : decode cX5_triangle 47 = .ok (.aload 4, 2) := by decide +kernel
theorem dX5_triangle_49 : decode cX5_triangle 49 = .ok (.getfield 159, 3) := by decide +kernel
theorem dX5_triangle_52 : decode cX5_triangle 52 = .ok (.iload_n 2, 1) := by decide +kernel
theorem dX5_triangle_53 : decode cX5_triangle 53 = .ok (.iaload, 1) := by decide +kernel
theorem dX5_triangle_54 : decode cX5_triangle 54 = .ok (.ireturn, 1) := by decide +kernel
theorem dX5_triangle_55 : decode cX5_triangle 55 = .ok (.iload_n 3, 1) := by decide +kernel
theorem dX5_triangle_56 : decode cX5_triangle 56 = .ok (.ifCond .ne 13, 3) := by decide +kernel
theorem dX5_triangle_59 : decode cX5_triangle 59 = .ok (.aload 4, 2) := by decide +kernel
theorem dX5_triangle_61 : decode cX5_triangle 61 = .ok (.getfield 162, 3) := by decide +kernel
theorem dX5_triangle_64 : decode cX5_triangle 64 = .ok (.iload_n 2, 1) := by decide +kernel
theorem dX5_triangle_65 : decode cX5_triangle 65 = .ok (.iaload, 1) := by decide +kernel
theorem dX5_triangle_66 : decode cX5_triangle 66 = .ok (.goto 10, 3) := by decide +kernel
theorem dX5_triangle_69 : decode cX5_triangle 69 = .ok (.aload 4, 2) := by decide +kernel
theorem dX5_triangle_71 : decode cX5_triangle 71 = .ok (.getfield 165, 3) := by decide +kernel
theorem dX5_triangle_74 : decode cX5_triangle 74 = .ok (.iload_n 2, 1) := by decide +kernel
theorem dX5_triangle_75 : decode cX5_triangle 75 = .ok (.iaload, 1) := by decide +kernel
theorem dX5_triangle_76 : decode cX5_triangle 76 = .ok (.ireturn, 1) := by decide +kernel
set_option maxRecDepth 20000 in
theorem ggX5_diagonal_X5_shapeOf : GoodIn wsX5_diagonal wsX5_shapeOf := goodIn_r _ [8, 9, 10, 30, 31, 32, 33, 34, 35] (by decide +kernel) (by decide +kernel)
set_option maxRecDepth 20000 in
theorem gX5_diagonal_X5_shapeOf : GoodIn wsX5_diagonal (wsV RX5 89 RX5 yX5_shapeOf wsX5_shapeOf) := goodIn_app (goodIn_of _ (by decide +kernel)) ggX5_diagonal_X5_shapeOf
set_option maxRecDepth 20000 in
theorem ggX5_diagonal_X3_diagonalCount : GoodIn wsX5_diagonal wsX3_diagonalCount := goodIn_r _ [15, 16, 17, 18, 19, 20, 21, 22, 23, 24, 25, 26, 27, 28, 29, 36, 37, 38] (by decide +kernel) (by decide +kernel)
set_option maxRecDepth 20000 in
theorem gX5_diagonal_X3_diagonalCount : GoodIn wsX5_diagonal (wsV RX5 168 RX3 yX3_diagonalCount wsX3_diagonalCount) := goodIn_app (goodIn_of _ (by decide +kernel)) ggX5_diagonal_X3_diagonalCount
theorem dX5_diagonal_0 : decode cX5_diagonal 0 = .ok (.aload_n 0, 1) := by decide +kernel
theorem dX5_diagonal_1 : decode cX5_diagonal 1 = .ok (.iload_n 1, 1) := by decide +kernel
theorem dX5_diagonal_2 : decode cX5_diagonal 2 = .ok (.invokevirtual 89, 3) := by decide +kernel
theorem dX5_diagonal_5 : decode cX5_diagonal 5 = .ok (.astore 4, 2) := by decide +kernel
theorem dX5_diagonal_7 : decode cX5_diagonal 7 = .ok (.aload 4, 2) := by decide +kernel
theorem dX5_diagonal_9 : decode cX5_diagonal 9 = .ok (.ifnonnull 6, 3) := by decide +kernel
theorem dX5_diagonal_12 : decode cX5_diagonal 12 = .ok (.bipush (-2), 2) := by decide +kernel
theorem dX5_diagonal_14 : decode cX5_diagonal 14 = .ok (.ireturn, 1) := by decide +kernel
theorem dX5_diagonal_15 : decode cX5_diagonal 15 = .ok (.iload_n 3, 1) := by decide +kernel
theorem dX5_diagonal_16 : decode cX5_diagonal 16 = .ok (.ifCond .lt 8, 3) := by decide +kernel
theorem dX5_diagonal_19 : decode cX5_diagonal 19 = .ok (.iload_n 3, 1) := by decide +kernel
theorem dX5_diagonal_20 : decode cX5_diagonal 20 = .ok (.iconst 2, 1) := by decide +kernel
theorem dX5_diagonal_21 : decode cX5_diagonal 21 = .ok (.if_icmp .le 6, 3) := by decide +kernel
theorem dX5_diagonal_24 : decode cX5_diagonal 24 = .ok (.bipush (-3), 2) := by decide +kernel
theorem dX5_diagonal_26 : decode cX5_diagonal 26 = .ok (.ireturn, 1) := by decide +kernel
theorem dX5_diagonal_27 : decode cX5_diagonal 27 = .ok (.iload_n 2, 1) := by decide +kernel
theorem dX5_diagonal_28 : decode cX5_diagonal 28 = .ok (.ifCond .lt 12, 3) := by decide +kernel
theorem dX5_diagonal_31 : decode cX5_diagonal 31 = .ok (.iload_n 2, 1) := by decide +kernel
theorem dX5_diagonal_32 : decode cX5_diagonal 32 = .ok (.aload 4, 2) := by decide +kernel
theorem dX5_diagonal_34 : decode cX5_diagonal 34 = .ok (.invokevirtual 168, 3) := by decide +kernel
theorem dX5_diagonal_37 : decode cX5_diagonal 37 = .ok (.if_icmp .lt 5, 3) := by decide +kernel
theorem dX5_diagonal_40 : decode cX5_diagonal 40 = .ok (.iconst (-1), 1) := by decide +kernel
theorem dX5_diagonal_41 : decode cX5_diagonal 41 = .ok (.ireturn, 1) := by decide +kernel
theorem dX5_diagonal_42 : decode cX5_diagonal 42 = .ok (.iload_n 3, 1) := by decide +kernel
theorem dX5_diagonal_43 : decode cX5_diagonal 43 = .ok (.iconst 2, 1) := by decide +kernel
theorem dX5_diagonal_44 : decode cX5_diagonal 44 = .ok (.if_icmp .ne 11, 3) := by decide +kernel
theorem dX5_diagonal_47 : decode cX5_diagonal 47 = .ok (.aload 4, 2) := by decide +kernel
theorem dX5_diagonal_49 : decode cX5_diagonal 49 = .ok (.getfield 171, 3) := by decide +kernel
theorem dX5_diagonal_52 : decode cX5_diagonal 52 = .ok (.iload_n 2, 1) := by decide +kernel
theorem dX5_diagonal_53 : decode cX5_diagonal 53 = .ok (.iaload, 1) := by decide +kernel
theorem dX5_diagonal_54 : decode cX5_diagonal 54 = .ok (.ireturn, 1) := by decide +kernel
theorem dX5_diagonal_55 : decode cX5_diagonal 55 = .ok (.iload_n 3, 1) := by decide +kernel
theorem dX5_diagonal_56 : decode cX5_diagonal 56 = .ok (.ifCond .ne 13, 3) := by decide +kernel
theorem dX5_diagonal_59 : decode cX5_diagonal 59 = .ok (.aload 4, 2) := by decide +kernel
theorem dX5_diagonal_61 : decode cX5_diagonal 61 = .ok (.getfield 174, 3) := by decide +kernel
theorem dX5_diagonal_64 : decode cX5_diagonal 64 = .ok (.iload_n 2, 1) := by decide +kernel
theorem dX5_diagonal_65 : decode cX5_diagonal 65 = .ok (.iaload, 1) := by decide +kernel
theorem dX5_diagonal_66 : decode cX5_diagonal 66 = .ok (.goto 10, 3) := by decide +kernel
theorem dX5_diagonal_69 : decode cX5_diagonal 69 = .ok (.aload 4, 2) := by decide +kernel
theorem dX5_diagonal_71 : decode cX5_diagonal 71 = .ok (.getfield 177, 3) := by decide +kernel
theorem dX5_diagonal_74 : decode cX5_diagonal 74 = .ok (.iload_n 2, 1) := by decide +kernel
theorem dX5_diagonal_75 : decode cX5_diagonal 75 = .ok (.iaload, 1) := by decide +kernel
theorem dX5_diagonal_76 : decode cX5_diagonal 76 = .ok (.ireturn, 1) := by decide +kernel
set_option maxRecDepth 20000 in
theorem ggX5_parts_X5_shapeOf : GoodIn wsX5_parts wsX5_shapeOf := goodIn_r _ [6, 7, 8, 21, 22, 23, 24, 25, 26] (by decide +kernel) (by decide +kernel)
set_option maxRecDepth 20000 in
theorem gX5_parts_X5_shapeOf : GoodIn wsX5_parts (wsV RX5 89 RX5 yX5_shapeOf wsX5_shapeOf) := goodIn_app (goodIn_of _ (by decide +kernel)) ggX5_parts_X5_shapeOf
theorem dX5_parts_0 : decode cX5_parts 0 = .ok (.aload_n 0, 1) := by decide +kernel
theorem dX5_parts_1 : decode cX5_parts 1 = .ok (.iload_n 1, 1) := by decide +kernel
theorem dX5_parts_2 : decode cX5_parts 2 = .ok (.invokevirtual 89, 3) := by decide +kernel
theorem dX5_parts_5 : decode cX5_parts 5 = .ok (.astore_n 2, 1) := by decide +kernel
theorem dX5_parts_6 : decode cX5_parts 6 = .ok (.aload_n 2, 1) := by decide +kernel
theorem dX5_parts_7 : decode cX5_parts 7 = .ok (.ifnonnull 8, 3) := by decide +kernel
theorem dX5_parts_10 : decode cX5_parts 10 = .ok (.bipush (-2), 2) := by decide +kernel
theorem dX5_parts_12 : decode cX5_parts 12 = .ok (.goto 7, 3) := by decide +kernel
theorem dX5_parts_15 : decode cX5_parts 15 = .ok (.aload_n 2, 1) := by decide +kernel
theorem dX5_parts_16 : decode cX5_parts 16 = .ok (.getfield 180, 3) := by decide +kernel
theorem dX5_parts_19 : decode cX5_parts 19 = .ok (.ireturn, 1) := by decide +kernel
set_option maxRecDepth 20000 in
theorem ggX5_same_X5_shapeOf : GoodIn wsX5_same wsX5_shapeOf := goodIn_r _ [5, 6, 7, 52, 53, 54, 55, 56, 57] (by decide +kernel) (by decide +kernel)
set_option maxRecDepth 20000 in
theorem gX5_same_X5_shapeOf : GoodIn wsX5_same (wsV RX5 89 RX5 yX5_shapeOf wsX5_shapeOf) := goodIn_app (goodIn_of _ (by decide +kernel)) ggX5_same_X5_shapeOf
set_option maxRecDepth 20000 in
theorem ggX5_same_X3_leastStart : GoodIn wsX5_same wsX3_leastStart := goodIn_r _ [12, 13, 14, 15, 16, 17, 11, 18, 19, 20, 21, 22, 23, 24, 25, 26, 27, 28, 29, 30, 31, 32, 33, 34, 35, 36, 37, 38, 39, 40, 41, 42, 43, 44, 45, 46, 47, 48, 49, 50, 51, 58, 59, 60, 61, 62, 63, 64, 65, 66, 67, 68, 69, 70, 71, 72] (by decide +kernel) (by decide +kernel)
set_option maxRecDepth 20000 in
theorem gX5_same_X3_leastStart : GoodIn wsX5_same (wsV RX5 183 RX3 yX3_leastStart wsX3_leastStart) := goodIn_app (goodIn_of _ (by decide +kernel)) ggX5_same_X3_leastStart
theorem dX5_same_0 : decode cX5_same 0 = .ok (.aload_n 0, 1) := by decide +kernel
theorem dX5_same_1 : decode cX5_same 1 = .ok (.iload_n 1, 1) := by decide +kernel
theorem dX5_same_2 : decode cX5_same 2 = .ok (.invokevirtual 89, 3) := by decide +kernel
theorem dX5_same_5 : decode cX5_same 5 = .ok (.astore_n 3, 1) := by decide +kernel
theorem dX5_same_6 : decode cX5_same 6 = .ok (.aload_n 0, 1) := by decide +kernel
theorem dX5_same_7 : decode cX5_same 7 = .ok (.iload_n 2, 1) := by decide +kernel
theorem dX5_same_8 : decode cX5_same 8 = .ok (.invokevirtual 89, 3) := by decide +kernel
theorem dX5_same_11 : decode cX5_same 11 = .ok (.astore 4, 2) := by decide +kernel
theorem dX5_same_13 : decode cX5_same 13 = .ok (.aload_n 3, 1) := by decide +kernel
theorem dX5_same_14 : decode cX5_same 14 = .ok (.ifnull 8, 3) := by decide +kernel
theorem dX5_same_17 : decode cX5_same 17 = .ok (.aload 4, 2) := by decide +kernel
theorem dX5_same_19 : decode cX5_same 19 = .ok (.ifnonnull 6, 3) := by decide +kernel
theorem dX5_same_22 : decode cX5_same 22 = .ok (.bipush (-2), 2) := by decide +kernel
theorem dX5_same_24 : decode cX5_same 24 = .ok (.ireturn, 1) := by decide +kernel
theorem dX5_same_25 : decode cX5_same 25 = .ok (.aload_n 3, 1) := by decide +kernel
theorem dX5_same_26 : decode cX5_same 26 = .ok (.aload 4, 2) := by decide +kernel
theorem dX5_same_28 : decode cX5_same 28 = .ok (.iconst 1, 1) := by decide +kernel
theorem dX5_same_29 : decode cX5_same 29 = .ok (.invokevirtual 183, 3) := by decide +kernel
theorem dX5_same_32 : decode cX5_same 32 = .ok (.iconst (-1), 1) := by decide +kernel
theorem dX5_same_33 : decode cX5_same 33 = .ok (.if_icmp .eq 5, 3) := by decide +kernel
theorem dX5_same_36 : decode cX5_same 36 = .ok (.iconst 1, 1) := by decide +kernel
theorem dX5_same_37 : decode cX5_same 37 = .ok (.ireturn, 1) := by decide +kernel
theorem dX5_same_38 : decode cX5_same 38 = .ok (.aload_n 3, 1) := by decide +kernel
theorem dX5_same_39 : decode cX5_same 39 = .ok (.aload 4, 2) := by decide +kernel
theorem dX5_same_41 : decode cX5_same 41 = .ok (.iconst (-1), 1) := by decide +kernel
theorem dX5_same_42 : decode cX5_same 42 = .ok (.invokevirtual 183, 3) := by decide +kernel
theorem dX5_same_45 : decode cX5_same 45 = .ok (.iconst (-1), 1) := by decide +kernel
theorem dX5_same_46 : decode cX5_same 46 = .ok (.if_icmp .eq 7, 3) := by decide +kernel
theorem dX5_same_49 : decode cX5_same 49 = .ok (.iconst 2, 1) := by decide +kernel
theorem dX5_same_50 : decode cX5_same 50 = .ok (.goto 4, 3) := by decide +kernel
theorem dX5_same_53 : decode cX5_same 53 = .ok (.iconst 0, 1) := by decide +kernel
theorem dX5_same_54 : decode cX5_same 54 = .ok (.ireturn, 1) := by decide +kernel
set_option maxRecDepth 20000 in
theorem ggX5_onto_X5_shapeOf : GoodIn wsX5_onto wsX5_shapeOf := goodIn_r _ [5, 6, 7, 52, 53, 54, 55, 56, 57] (by decide +kernel) (by decide +kernel)
set_option maxRecDepth 20000 in
theorem gX5_onto_X5_shapeOf : GoodIn wsX5_onto (wsV RX5 89 RX5 yX5_shapeOf wsX5_shapeOf) := goodIn_app (goodIn_of _ (by decide +kernel)) ggX5_onto_X5_shapeOf
set_option maxRecDepth 20000 in
theorem ggX5_onto_X3_leastStart : GoodIn wsX5_onto wsX3_leastStart := goodIn_r _ [12, 13, 14, 15, 16, 17, 11, 18, 19, 20, 21, 22, 23, 24, 25, 26, 27, 28, 29, 30, 31, 32, 33, 34, 35, 36, 37, 38, 39, 40, 41, 42, 43, 44, 45, 46, 47, 48, 49, 50, 51, 58, 59, 60, 61, 62, 63, 64, 65, 66, 67, 68, 69, 70, 71, 72] (by decide +kernel) (by decide +kernel)
set_option maxRecDepth 20000 in
theorem gX5_onto_X3_leastStart : GoodIn wsX5_onto (wsV RX5 183 RX3 yX3_leastStart wsX3_leastStart) := goodIn_app (goodIn_of _ (by decide +kernel)) ggX5_onto_X3_leastStart
theorem dX5_onto_0 : decode cX5_onto 0 = .ok (.aload_n 0, 1) := by decide +kernel
theorem dX5_onto_1 : decode cX5_onto 1 = .ok (.iload_n 1, 1) := by decide +kernel
theorem dX5_onto_2 : decode cX5_onto 2 = .ok (.invokevirtual 89, 3) := by decide +kernel
theorem dX5_onto_5 : decode cX5_onto 5 = .ok (.astore_n 3, 1) := by decide +kernel
theorem dX5_onto_6 : decode cX5_onto 6 = .ok (.aload_n 0, 1) := by decide +kernel
theorem dX5_onto_7 : decode cX5_onto 7 = .ok (.iload_n 2, 1) := by decide +kernel
theorem dX5_onto_8 : decode cX5_onto 8 = .ok (.invokevirtual 89, 3) := by decide +kernel
theorem dX5_onto_11 : decode cX5_onto 11 = .ok (.astore 4, 2) := by decide +kernel
theorem dX5_onto_13 : decode cX5_onto 13 = .ok (.aload_n 3, 1) := by decide +kernel
theorem dX5_onto_14 : decode cX5_onto 14 = .ok (.ifnull 8, 3) := by decide +kernel
theorem dX5_onto_17 : decode cX5_onto 17 = .ok (.aload 4, 2) := by decide +kernel
theorem dX5_onto_19 : decode cX5_onto 19 = .ok (.ifnonnull 6, 3) := by decide +kernel
theorem dX5_onto_22 : decode cX5_onto 22 = .ok (.bipush (-2), 2) := by decide +kernel
theorem dX5_onto_24 : decode cX5_onto 24 = .ok (.ireturn, 1) := by decide +kernel
theorem dX5_onto_25 : decode cX5_onto 25 = .ok (.aload_n 3, 1) := by decide +kernel
theorem dX5_onto_26 : decode cX5_onto 26 = .ok (.aload 4, 2) := by decide +kernel
theorem dX5_onto_28 : decode cX5_onto 28 = .ok (.iconst 1, 1) := by decide +kernel
theorem dX5_onto_29 : decode cX5_onto 29 = .ok (.invokevirtual 183, 3) := by decide +kernel
theorem dX5_onto_32 : decode cX5_onto 32 = .ok (.istore 5, 2) := by decide +kernel
theorem dX5_onto_34 : decode cX5_onto 34 = .ok (.iload 5, 2) := by decide +kernel
theorem dX5_onto_36 : decode cX5_onto 36 = .ok (.iconst (-1), 1) := by decide +kernel
theorem dX5_onto_37 : decode cX5_onto 37 = .ok (.if_icmp .eq 8, 3) := by decide +kernel
theorem dX5_onto_40 : decode cX5_onto 40 = .ok (.iload 5, 2) := by decide +kernel
theorem dX5_onto_42 : decode cX5_onto 42 = .ok (.goto 10, 3) := by decide +kernel
theorem dX5_onto_45 : decode cX5_onto 45 = .ok (.aload_n 3, 1) := by decide +kernel
theorem dX5_onto_46 : decode cX5_onto 46 = .ok (.aload 4, 2) := by decide +kernel
theorem dX5_onto_48 : decode cX5_onto 48 = .ok (.iconst (-1), 1) := by decide +kernel
theorem dX5_onto_49 : decode cX5_onto 49 = .ok (.invokevirtual 183, 3) := by decide +kernel
theorem dX5_onto_52 : decode cX5_onto 52 = .ok (.ireturn, 1) := by decide +kernel
set_option maxRecDepth 20000 in
theorem ggX5_symmetries_X5_shapeOf : GoodIn wsX5_symmetries wsX5_shapeOf := goodIn_r _ [5, 6, 7, 55, 56, 57, 58, 59, 60] (by decide +kernel) (by decide +kernel)
set_option maxRecDepth 20000 in
theorem gX5_symmetries_X5_shapeOf : GoodIn wsX5_symmetries (wsV RX5 89 RX5 yX5_shapeOf wsX5_shapeOf) := goodIn_app (goodIn_of _ (by decide +kernel)) ggX5_symmetries_X5_shapeOf
set_option maxRecDepth 20000 in
theorem ggX5_symmetries_X5_isZeroOrOne : GoodIn wsX5_symmetries wsX5_isZeroOrOne := goodIn_r _ [10] (by decide +kernel) (by decide +kernel)
set_option maxRecDepth 20000 in
theorem gX5_symmetries_X5_isZeroOrOne : GoodIn wsX5_symmetries (va_wsS RX5 100 yX5_isZeroOrOne wsX5_isZeroOrOne) := goodIn_app (goodIn_of _ (by decide +kernel)) ggX5_symmetries_X5_isZeroOrOne
set_option maxRecDepth 20000 in
theorem ggX5_symmetries_X3_startCount : GoodIn wsX5_symmetries wsX3_startCount := goodIn_r _ [15, 16, 17, 18, 19, 20, 14, 21, 22, 23, 24, 25, 26, 27, 28, 29, 30, 31, 32, 33, 34, 35, 36, 37, 38, 39, 40, 41, 42, 43, 44, 45, 46, 47, 48, 49, 50, 51, 52, 53, 54, 61, 62, 63, 64, 65, 66, 67, 68, 69, 70, 71, 72, 73, 74, 75] (by decide +kernel) (by decide +kernel)
set_option maxRecDepth 20000 in
theorem gX5_symmetries_X3_startCount : GoodIn wsX5_symmetries (wsV RX5 187 RX3 yX3_startCount wsX3_startCount) := goodIn_app (goodIn_of _ (by decide +kernel)) ggX5_symmetries_X3_startCount
theorem dX5_symmetries_0 : decode cX5_symmetries 0 = .ok (.aload_n 0, 1) := by decide +kernel
theorem dX5_symmetries_1 : decode cX5_symmetries 1 = .ok (.iload_n 1, 1) := by decide +kernel
theorem dX5_symmetries_2 : decode cX5_symmetries 2 = .ok (.invokevirtual 89, 3) := by decide +kernel
theorem dX5_symmetries_5 : decode cX5_symmetries 5 = .ok (.astore_n 3, 1) := by decide +kernel
theorem dX5_symmetries_6 : decode cX5_symmetries 6 = .ok (.aload_n 3, 1) := by decide +kernel
theorem dX5_symmetries_7 : decode cX5_symmetries 7 = .ok (.ifnonnull 6, 3) := by decide +kernel
theorem dX5_symmetries_10 : decode cX5_symmetries 10 = .ok (.bipush (-2), 2) := by decide +kernel
theorem dX5_symmetries_12 : decode cX5_symmetries 12 = .ok (.ireturn, 1) := by decide +kernel
theorem dX5_symmetries_13 : decode cX5_symmetries 13 = .ok (.iload_n 2, 1) := by decide +kernel
theorem dX5_symmetries_14 : decode cX5_symmetries 14 = .ok (.invokestatic 100, 3) := by decide +kernel
theorem dX5_symmetries_17 : decode cX5_symmetries 17 = .ok (.ifCond .ne 6, 3) := by decide +kernel
theorem dX5_symmetries_20 : decode cX5_symmetries 20 = .ok (.bipush (-3), 2) := by decide +kernel
theorem dX5_symmetries_22 : decode cX5_symmetries 22 = .ok (.ireturn, 1) := by decide +kernel
theorem dX5_symmetries_23 : decode cX5_symmetries 23 = .ok (.aload_n 3, 1) := by decide +kernel
theorem dX5_symmetries_24 : decode cX5_symmetries 24 = .ok (.iconst 1, 1) := by decide +kernel
theorem dX5_symmetries_25 : decode cX5_symmetries 25 = .ok (.invokevirtual 187, 3) := by decide +kernel
theorem dX5_symmetries_28 : decode cX5_symmetries 28 = .ok (.istore 4, 2) := by decide +kernel
theorem dX5_symmetries_30 : decode cX5_symmetries 30 = .ok (.iload_n 2, 1) := by decide +kernel
theorem dX5_symmetries_31 : decode cX5_symmetries 31 = .ok (.ifCond .ne 8, 3) := by decide +kernel
theorem dX5_symmetries_34 : decode cX5_symmetries 34 = .ok (.iload 4, 2) := by decide +kernel
theorem dX5_symmetries_36 : decode cX5_symmetries 36 = .ok (.goto 11, 3) := by decide +kernel
theorem dX5_symmetries_39 : decode cX5_symmetries 39 = .ok (.iload 4, 2) := by decide +kernel
theorem dX5_symmetries_41 : decode cX5_symmetries 41 = .ok (.aload_n 3, 1) := by decide +kernel
theorem dX5_symmetries_42 : decode cX5_symmetries 42 = .ok (.iconst (-1), 1) := by decide +kernel
theorem dX5_symmetries_43 : decode cX5_symmetries 43 = .ok (.invokevirtual 187, 3) := by decide +kernel
theorem dX5_symmetries_46 : decode cX5_symmetries 46 = .ok (.iadd, 1) := by decide +kernel
theorem dX5_symmetries_47 : decode cX5_symmetries 47 = .ok (.ireturn, 1) := by decide +kernel
theorem dX5_shapeOf_0 : decode cX5_shapeOf 0 = .ok (.iload_n 1, 1) := by decide +kernel
theorem dX5_shapeOf_1 : decode cX5_shapeOf 1 = .ok (.ifCond .lt 20, 3) := by decide +kernel
theorem dX5_shapeOf_4 : decode cX5_shapeOf 4 = .ok (.iload_n 1, 1) := by decide +kernel
theorem dX5_shapeOf_5 : decode cX5_shapeOf 5 = .ok (.aload_n 0, 1) := by decide +kernel
theorem dX5_shapeOf_6 : decode cX5_shapeOf 6 = .ok (.getfield 44, 3) := by decide +kernel
theorem dX5_shapeOf_9 : decode cX5_shapeOf 9 = .ok (.if_icmp .ge 12, 3) := by decide +kernel
theorem dX5_shapeOf_12 : decode cX5_shapeOf 12 = .ok (.aload_n 0, 1) := by decide +kernel
theorem dX5_shapeOf_13 : decode cX5_shapeOf 13 = .ok (.getfield 39, 3) := by decide +kernel
theorem dX5_shapeOf_16 : decode cX5_shapeOf 16 = .ok (.iload_n 1, 1) := by decide +kernel
theorem dX5_shapeOf_17 : decode cX5_shapeOf 17 = .ok (.aaload, 1) := by decide +kernel
theorem dX5_shapeOf_18 : decode cX5_shapeOf 18 = .ok (.goto 4, 3) := by decide +kernel
theorem dX5_shapeOf_21 : decode cX5_shapeOf 21 = .ok (.aconst_null, 1) := by decide +kernel
theorem dX5_shapeOf_22 : decode cX5_shapeOf 22 = .ok (.areturn, 1) := by decide +kernel
theorem dX5_isWithin_0 : decode cX5_isWithin 0 = .ok (.iload_n 0, 1) := by decide +kernel
theorem dX5_isWithin_1 : decode cX5_isWithin 1 = .ok (.iload_n 1, 1) := by decide +kernel
theorem dX5_isWithin_2 : decode cX5_isWithin 2 = .ok (.ineg, 1) := by decide +kernel
theorem dX5_isWithin_3 : decode cX5_isWithin 3 = .ok (.if_icmp .lt 12, 3) := by decide +kernel
theorem dX5_isWithin_6 : decode cX5_isWithin 6 = .ok (.iload_n 0, 1) := by decide +kernel
theorem dX5_isWithin_7 : decode cX5_isWithin 7 = .ok (.iload_n 1, 1) := by decide +kernel
theorem dX5_isWithin_8 : decode cX5_isWithin 8 = .ok (.if_icmp .gt 7, 3) := by decide +kernel
theorem dX5_isWithin_11 : decode cX5_isWithin 11 = .ok (.iconst 1, 1) := by decide +kernel
theorem dX5_isWithin_12 : decode cX5_isWithin 12 = .ok (.goto 4, 3) := by decide +kernel
theorem dX5_isWithin_15 : decode cX5_isWithin 15 = .ok (.iconst 0, 1) := by decide +kernel
theorem dX5_isWithin_16 : decode cX5_isWithin 16 = .ok (.ireturn, 1) := by decide +kernel
theorem dX5_isZeroOrOne_0 : decode cX5_isZeroOrOne 0 = .ok (.iload_n 0, 1) := by decide +kernel
theorem dX5_isZeroOrOne_1 : decode cX5_isZeroOrOne 1 = .ok (.ifCond .eq 8, 3) := by decide +kernel
theorem dX5_isZeroOrOne_4 : decode cX5_isZeroOrOne 4 = .ok (.iload_n 0, 1) := by decide +kernel
theorem dX5_isZeroOrOne_5 : decode cX5_isZeroOrOne 5 = .ok (.iconst 1, 1) := by decide +kernel
theorem dX5_isZeroOrOne_6 : decode cX5_isZeroOrOne 6 = .ok (.if_icmp .ne 7, 3) := by decide +kernel
theorem dX5_isZeroOrOne_9 : decode cX5_isZeroOrOne 9 = .ok (.iconst 1, 1) := by decide +kernel
theorem dX5_isZeroOrOne_10 : decode cX5_isZeroOrOne 10 = .ok (.goto 4, 3) := by decide +kernel
theorem dX5_isZeroOrOne_13 : decode cX5_isZeroOrOne 13 = .ok (.iconst 0, 1) := by decide +kernel
theorem dX5_isZeroOrOne_14 : decode cX5_isZeroOrOne 14 = .ok (.ireturn, 1) := by decide +kernel
theorem dX5_greatestDivisor_0 : decode cX5_greatestDivisor 0 = .ok (.lload_n 0, 1) := by decide +kernel
theorem dX5_greatestDivisor_1 : decode cX5_greatestDivisor 1 = .ok (.invokestatic 190, 3) := by decide +kernel
theorem dX5_greatestDivisor_4 : decode cX5_greatestDivisor 4 = .ok (.lstore 4, 2) := by decide +kernel
theorem dX5_greatestDivisor_6 : decode cX5_greatestDivisor 6 = .ok (.lload_n 2, 1) := by decide +kernel
theorem dX5_greatestDivisor_7 : decode cX5_greatestDivisor 7 = .ok (.invokestatic 190, 3) := by decide +kernel
theorem dX5_greatestDivisor_10 : decode cX5_greatestDivisor 10 = .ok (.lstore 6, 2) := by decide +kernel
theorem dX5_greatestDivisor_12 : decode cX5_greatestDivisor 12 = .ok (.iconst 0, 1) := by decide +kernel
theorem dX5_greatestDivisor_13 : decode cX5_greatestDivisor 13 = .ok (.istore 8, 2) := by decide +kernel
theorem dX5_greatestDivisor_15 : decode cX5_greatestDivisor 15 = .ok (.iload 8, 2) := by decide +kernel
theorem dX5_greatestDivisor_17 : decode cX5_greatestDivisor 17 = .ok (.bipush 100, 2) := by decide +kernel
theorem dX5_greatestDivisor_19 : decode cX5_greatestDivisor 19 = .ok (.if_icmp .ge 31, 3) := by decide +kernel
theorem dX5_greatestDivisor_22 : decode cX5_greatestDivisor 22 = .ok (.lload 6, 2) := by decide +kernel
theorem dX5_greatestDivisor_24 : decode cX5_greatestDivisor 24 = .ok (.lconst 0, 1) := by decide +kernel
theorem dX5_greatestDivisor_25 : decode cX5_greatestDivisor 25 = .ok (.lcmp, 1) := by decide +kernel
theorem dX5_greatestDivisor_26 : decode cX5_greatestDivisor 26 = .ok (.ifCond .eq 24, 3) := by decide +kernel
theorem dX5_greatestDivisor_29 : decode cX5_greatestDivisor 29 = .ok (.lload 4, 2) := by decide +kernel
theorem dX5_greatestDivisor_31 : decode cX5_greatestDivisor 31 = .ok (.lload 6, 2) := by decide +kernel
theorem dX5_greatestDivisor_33 : decode cX5_greatestDivisor 33 = .ok (.lrem, 1) := by decide +kernel
theorem dX5_greatestDivisor_34 : decode cX5_greatestDivisor 34 = .ok (.lstore 9, 2) := by decide +kernel
theorem dX5_greatestDivisor_36 : decode cX5_greatestDivisor 36 = .ok (.lload 6, 2) := by decide +kernel
theorem dX5_greatestDivisor_38 : decode cX5_greatestDivisor 38 = .ok (.lstore 4, 2) := by decide +kernel
theorem dX5_greatestDivisor_40 : decode cX5_greatestDivisor 40 = .ok (.lload 9, 2) := by decide +kernel
theorem dX5_greatestDivisor_42 : decode cX5_greatestDivisor 42 = .ok (.lstore 6, 2) := by decide +kernel
theorem dX5_greatestDivisor_44 : decode cX5_greatestDivisor 44 = .ok (.iinc 8 1, 3) := by decide +kernel
theorem dX5_greatestDivisor_47 : decode cX5_greatestDivisor 47 = .ok (.goto (-32), 3) := by decide +kernel
theorem dX5_greatestDivisor_50 : decode cX5_greatestDivisor 50 = .ok (.lload 4, 2) := by decide +kernel
theorem dX5_greatestDivisor_52 : decode cX5_greatestDivisor 52 = .ok (.lreturn, 1) := by decide +kernel

theorem dJ9_abs_0f7a4_0 : decode cJ9_abs_0f7a4 0 = .ok (.iload_n 0, 1) := by decide +kernel
theorem dJ9_abs_0f7a4_1 : decode cJ9_abs_0f7a4 1 = .ok (.ifCond .ge 8, 3) := by decide +kernel
theorem dJ9_abs_0f7a4_4 : decode cJ9_abs_0f7a4 4 = .ok (.iload_n 0, 1) := by decide +kernel
theorem dJ9_abs_0f7a4_5 : decode cJ9_abs_0f7a4 5 = .ok (.ineg, 1) := by decide +kernel
theorem dJ9_abs_0f7a4_6 : decode cJ9_abs_0f7a4 6 = .ok (.goto 4, 3) := by decide +kernel
theorem dJ9_abs_0f7a4_9 : decode cJ9_abs_0f7a4 9 = .ok (.iload_n 0, 1) := by decide +kernel
theorem dJ9_abs_0f7a4_10 : decode cJ9_abs_0f7a4 10 = .ok (.ireturn, 1) := by decide +kernel
theorem dJ9_abs_067f4_0 : decode cJ9_abs_067f4 0 = .ok (.lload_n 0, 1) := by decide +kernel
theorem dJ9_abs_067f4_1 : decode cJ9_abs_067f4 1 = .ok (.lconst 0, 1) := by decide +kernel
theorem dJ9_abs_067f4_2 : decode cJ9_abs_067f4 2 = .ok (.lcmp, 1) := by decide +kernel
theorem dJ9_abs_067f4_3 : decode cJ9_abs_067f4 3 = .ok (.ifCond .ge 8, 3) := by decide +kernel
theorem dJ9_abs_067f4_6 : decode cJ9_abs_067f4 6 = .ok (.lload_n 0, 1) := by decide +kernel
theorem dJ9_abs_067f4_7 : decode cJ9_abs_067f4 7 = .ok (.lneg, 1) := by decide +kernel
theorem dJ9_abs_067f4_8 : decode cJ9_abs_067f4 8 = .ok (.goto 4, 3) := by decide +kernel
theorem dJ9_abs_067f4_11 : decode cJ9_abs_067f4 11 = .ok (.lload_n 0, 1) := by decide +kernel
theorem dJ9_abs_067f4_12 : decode cJ9_abs_067f4 12 = .ok (.lreturn, 1) := by decide +kernel
theorem dJ9_max_7cf53_0 : decode cJ9_max_7cf53 0 = .ok (.iload_n 0, 1) := by decide +kernel
theorem dJ9_max_7cf53_1 : decode cJ9_max_7cf53 1 = .ok (.iload_n 1, 1) := by decide +kernel
theorem dJ9_max_7cf53_2 : decode cJ9_max_7cf53 2 = .ok (.if_icmp .lt 7, 3) := by decide +kernel
theorem dJ9_max_7cf53_5 : decode cJ9_max_7cf53 5 = .ok (.iload_n 0, 1) := by decide +kernel
theorem dJ9_max_7cf53_6 : decode cJ9_max_7cf53 6 = .ok (.goto 4, 3) := by decide +kernel
theorem dJ9_max_7cf53_9 : decode cJ9_max_7cf53 9 = .ok (.iload_n 1, 1) := by decide +kernel
theorem dJ9_max_7cf53_10 : decode cJ9_max_7cf53 10 = .ok (.ireturn, 1) := by decide +kernel
theorem dJ9_min_7cf53_0 : decode cJ9_min_7cf53 0 = .ok (.iload_n 0, 1) := by decide +kernel
theorem dJ9_min_7cf53_1 : decode cJ9_min_7cf53 1 = .ok (.iload_n 1, 1) := by decide +kernel
theorem dJ9_min_7cf53_2 : decode cJ9_min_7cf53 2 = .ok (.if_icmp .gt 7, 3) := by decide +kernel
theorem dJ9_min_7cf53_5 : decode cJ9_min_7cf53 5 = .ok (.iload_n 0, 1) := by decide +kernel
theorem dJ9_min_7cf53_6 : decode cJ9_min_7cf53 6 = .ok (.goto 4, 3) := by decide +kernel
theorem dJ9_min_7cf53_9 : decode cJ9_min_7cf53 9 = .ok (.iload_n 1, 1) := by decide +kernel
theorem dJ9_min_7cf53_10 : decode cJ9_min_7cf53 10 = .ok (.ireturn, 1) := by decide +kernel
