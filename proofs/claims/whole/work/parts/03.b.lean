theorem dX2_init_0 : decode cX2_init 0 = .ok (.aload_n 0, 1) := by decide +kernel
theorem dX2_init_1 : decode cX2_init 1 = .ok (.invokespecial 3, 3) := by decide +kernel
theorem dX2_init_4 : decode cX2_init 4 = .ok (.aload_n 0, 1) := by decide +kernel
theorem dX2_init_5 : decode cX2_init 5 = .ok (.bipush 14, 2) := by decide +kernel
theorem dX2_init_7 : decode cX2_init 7 = .ok (.bipush 14, 2) := by decide +kernel
theorem dX2_init_9 : decode cX2_init 9 = .ok (.multianewarray 9 2, 4) := by decide +kernel
theorem dX2_init_13 : decode cX2_init 13 = .ok (.putfield 11, 3) := by decide +kernel
theorem dX2_init_16 : decode cX2_init 16 = .ok (.aload_n 0, 1) := by decide +kernel
theorem dX2_init_17 : decode cX2_init 17 = .ok (.bipush 14, 2) := by decide +kernel
theorem dX2_init_19 : decode cX2_init 19 = .ok (.bipush 14, 2) := by decide +kernel
theorem dX2_init_21 : decode cX2_init 21 = .ok (.multianewarray 9 2, 4) := by decide +kernel
theorem dX2_init_25 : decode cX2_init 25 = .ok (.putfield 16, 3) := by decide +kernel
theorem dX2_init_28 : decode cX2_init 28 = .ok (.aload_n 0, 1) := by decide +kernel
theorem dX2_init_29 : decode cX2_init 29 = .ok (.bipush 14, 2) := by decide +kernel
theorem dX2_init_31 : decode cX2_init 31 = .ok (.bipush 14, 2) := by decide +kernel
theorem dX2_init_33 : decode cX2_init 33 = .ok (.multianewarray 9 2, 4) := by decide +kernel
theorem dX2_init_37 : decode cX2_init 37 = .ok (.putfield 19, 3) := by decide +kernel
theorem dX2_init_40 : decode cX2_init 40 = .ok (.aload_n 0, 1) := by decide +kernel
theorem dX2_init_41 : decode cX2_init 41 = .ok (.bipush 14, 2) := by decide +kernel
theorem dX2_init_43 : decode cX2_init 43 = .ok (.bipush 14, 2) := by decide +kernel
theorem dX2_init_45 : decode cX2_init 45 = .ok (.multianewarray 9 2, 4) := by decide +kernel
theorem dX2_init_49 : decode cX2_init 49 = .ok (.putfield 22, 3) := by decide +kernel
theorem dX2_init_52 : decode cX2_init 52 = .ok (.return_, 1) := by decide +kernel
set_option maxRecDepth 20000 in
theorem ggX2_cut_X2_weighSpans : GoodIn wsX2_cut wsX2_weighSpans := goodIn_r _ [11, 1, 2, 3, 5, 12, 13, 14, 10, 15, 16, 17, 18, 19, 20, 21, 22, 23, 24, 93, 94, 95, 96, 97, 98, 99, 100, 101, 102, 103, 104, 105, 106, 107, 108, 109, 110, 111] (by decide +kernel) (by decide +kernel)
set_option maxRecDepth 20000 in
theorem gX2_cut_X2_weighSpans : GoodIn wsX2_cut (wsV RX2 37 RX2 yX2_weighSpans wsX2_weighSpans) := goodIn_app (goodIn_of _ (by decide +kernel)) ggX2_cut_X2_weighSpans
set_option maxRecDepth 20000 in
theorem ggX2_cut_X2_nameTriangles : GoodIn wsX2_cut wsX2_nameTriangles := goodIn_r _ [28, 29, 30, 1, 2, 16, 31, 32, 33, 34, 35, 36, 37, 38, 39, 40, 10, 41, 93, 94, 95, 96, 97, 98, 99, 100, 101, 102, 103, 104, 105, 106, 107, 108, 109, 110, 111] (by decide +kernel) (by decide +kernel)
set_option maxRecDepth 20000 in
theorem gX2_cut_X2_nameTriangles : GoodIn wsX2_cut (wsV RX2 47 RX2 yX2_nameTriangles wsX2_nameTriangles) := goodIn_app (goodIn_of _ (by decide +kernel)) ggX2_cut_X2_nameTriangles
set_option maxRecDepth 20000 in
theorem ggX2_cut_X2_nameDiagonals : GoodIn wsX2_cut wsX2_nameDiagonals := goodIn_r _ [45, 1, 2, 46, 17, 29, 30, 47, 48, 32, 33, 34, 35, 36, 37, 38, 49, 50, 51, 10, 52, 53, 54, 55, 56, 93, 94, 95, 96, 97, 98, 99, 100, 101, 102, 103, 104, 105, 106, 107, 108, 109, 110, 111] (by decide +kernel) (by decide +kernel)
set_option maxRecDepth 20000 in
theorem gX2_cut_X2_nameDiagonals : GoodIn wsX2_cut (wsV RX2 50 RX2 yX2_nameDiagonals wsX2_nameDiagonals) := goodIn_app (goodIn_of _ (by decide +kernel)) ggX2_cut_X2_nameDiagonals
set_option maxRecDepth 20000 in
theorem ggX2_cut_X2_merge : GoodIn wsX2_cut wsX2_merge := goodIn_r _ [60, 61, 47, 48, 62, 53, 54, 55, 35, 56, 37, 38, 63, 64, 65, 10, 66, 1, 67, 68, 69, 70, 2, 46, 71, 72, 73, 21, 74, 75, 76, 77, 78, 79, 80, 81, 82, 83, 84, 85, 86, 87, 23, 24, 88, 89, 90, 91, 92, 49, 50, 51, 52, 93, 94, 95, 96, 97, 98, 99, 100, 101, 102, 103, 104, 105, 106, 107, 108, 109, 110, 111] (by decide +kernel) (by decide +kernel)
set_option maxRecDepth 20000 in
theorem gX2_cut_X2_merge : GoodIn wsX2_cut (wsV RX2 53 RX2 yX2_merge wsX2_merge) := goodIn_app (goodIn_of _ (by decide +kernel)) ggX2_cut_X2_merge
theorem dX2_cut_0 : decode cX2_cut 0 = .ok (.aload_n 1, 1) := by decide +kernel
theorem dX2_cut_1 : decode cX2_cut 1 = .ok (.getfield 25, 3) := by decide +kernel
theorem dX2_cut_4 : decode cX2_cut 4 = .ok (.getfield 31, 3) := by decide +kernel
theorem dX2_cut_7 : decode cX2_cut 7 = .ok (.iconst 1, 1) := by decide +kernel
theorem dX2_cut_8 : decode cX2_cut 8 = .ok (.isub, 1) := by decide +kernel
theorem dX2_cut_9 : decode cX2_cut 9 = .ok (.istore_n 2, 1) := by decide +kernel
theorem dX2_cut_10 : decode cX2_cut 10 = .ok (.aload_n 0, 1) := by decide +kernel
theorem dX2_cut_11 : decode cX2_cut 11 = .ok (.aload_n 1, 1) := by decide +kernel
theorem dX2_cut_12 : decode cX2_cut 12 = .ok (.invokevirtual 37, 3) := by decide +kernel
theorem dX2_cut_15 : decode cX2_cut 15 = .ok (.aload_n 1, 1) := by decide +kernel
theorem dX2_cut_16 : decode cX2_cut 16 = .ok (.aload_n 0, 1) := by decide +kernel
theorem dX2_cut_17 : decode cX2_cut 17 = .ok (.getfield 11, 3) := by decide +kernel
theorem dX2_cut_20 : decode cX2_cut 20 = .ok (.iconst 0, 1) := by decide +kernel
theorem dX2_cut_21 : decode cX2_cut 21 = .ok (.aaload, 1) := by decide +kernel
theorem dX2_cut_22 : decode cX2_cut 22 = .ok (.iload_n 2, 1) := by decide +kernel
theorem dX2_cut_23 : decode cX2_cut 23 = .ok (.iaload, 1) := by decide +kernel
theorem dX2_cut_24 : decode cX2_cut 24 = .ok (.putfield 41, 3) := by decide +kernel
theorem dX2_cut_27 : decode cX2_cut 27 = .ok (.aload_n 1, 1) := by decide +kernel
theorem dX2_cut_28 : decode cX2_cut 28 = .ok (.aload_n 0, 1) := by decide +kernel
theorem dX2_cut_29 : decode cX2_cut 29 = .ok (.getfield 16, 3) := by decide +kernel
theorem dX2_cut_32 : decode cX2_cut 32 = .ok (.iconst 0, 1) := by decide +kernel
theorem dX2_cut_33 : decode cX2_cut 33 = .ok (.aaload, 1) := by decide +kernel
theorem dX2_cut_34 : decode cX2_cut 34 = .ok (.iload_n 2, 1) := by decide +kernel
theorem dX2_cut_35 : decode cX2_cut 35 = .ok (.iaload, 1) := by decide +kernel
theorem dX2_cut_36 : decode cX2_cut 36 = .ok (.putfield 44, 3) := by decide +kernel
theorem dX2_cut_39 : decode cX2_cut 39 = .ok (.aload_n 0, 1) := by decide +kernel
theorem dX2_cut_40 : decode cX2_cut 40 = .ok (.aload_n 1, 1) := by decide +kernel
theorem dX2_cut_41 : decode cX2_cut 41 = .ok (.invokevirtual 47, 3) := by decide +kernel
theorem dX2_cut_44 : decode cX2_cut 44 = .ok (.aload_n 0, 1) := by decide +kernel
theorem dX2_cut_45 : decode cX2_cut 45 = .ok (.aload_n 1, 1) := by decide +kernel
theorem dX2_cut_46 : decode cX2_cut 46 = .ok (.invokevirtual 50, 3) := by decide +kernel
theorem dX2_cut_49 : decode cX2_cut 49 = .ok (.aload_n 0, 1) := by decide +kernel
theorem dX2_cut_50 : decode cX2_cut 50 = .ok (.aload_n 1, 1) := by decide +kernel
theorem dX2_cut_51 : decode cX2_cut 51 = .ok (.invokevirtual 53, 3) := by decide +kernel
theorem dX2_cut_54 : decode cX2_cut 54 = .ok (.return_, 1) := by decide +kernel
set_option maxRecDepth 20000 in
theorem ggX2_weighSpans_X2_weighSpan : GoodIn wsX2_weighSpans wsX2_weighSpan := goodIn_r _ [9, 3, 4, 10, 11, 1, 12, 13, 14, 15, 16, 17, 18, 34, 35, 36, 37, 19, 20, 21, 22, 23, 24, 25, 26, 27, 28, 29, 30, 31, 32, 33] (by decide +kernel) (by decide +kernel)
set_option maxRecDepth 20000 in
theorem gX2_weighSpans_X2_weighSpan : GoodIn wsX2_weighSpans (wsV RX2 56 RX2 yX2_weighSpan wsX2_weighSpan) := goodIn_app (goodIn_of _ (by decide +kernel)) ggX2_weighSpans_X2_weighSpan
theorem dX2_weighSpans_0 : decode cX2_weighSpans 0 = .ok (.aload_n 1, 1) := by decide +kernel
theorem dX2_weighSpans_1 : decode cX2_weighSpans 1 = .ok (.getfield 25, 3) := by decide +kernel
theorem dX2_weighSpans_4 : decode cX2_weighSpans 4 = .ok (.getfield 31, 3) := by decide +kernel
theorem dX2_weighSpans_7 : decode cX2_weighSpans 7 = .ok (.istore_n 2, 1) := by decide +kernel
theorem dX2_weighSpans_8 : decode cX2_weighSpans 8 = .ok (.iconst 0, 1) := by decide +kernel
theorem dX2_weighSpans_9 : decode cX2_weighSpans 9 = .ok (.istore_n 3, 1) := by decide +kernel
theorem dX2_weighSpans_10 : decode cX2_weighSpans 10 = .ok (.iload_n 3, 1) := by decide +kernel
theorem dX2_weighSpans_11 : decode cX2_weighSpans 11 = .ok (.iconst 1, 1) := by decide +kernel
theorem dX2_weighSpans_12 : decode cX2_weighSpans 12 = .ok (.iadd, 1) := by decide +kernel
theorem dX2_weighSpans_13 : decode cX2_weighSpans 13 = .ok (.iload_n 2, 1) := by decide +kernel
theorem dX2_weighSpans_14 : decode cX2_weighSpans 14 = .ok (.if_icmp .ge 31, 3) := by decide +kernel
theorem dX2_weighSpans_17 : decode cX2_weighSpans 17 = .ok (.aload_n 0, 1) := by decide +kernel
theorem dX2_weighSpans_18 : decode cX2_weighSpans 18 = .ok (.getfield 11, 3) := by decide +kernel
theorem dX2_weighSpans_21 : decode cX2_weighSpans 21 = .ok (.iload_n 3, 1) := by decide +kernel
theorem dX2_weighSpans_22 : decode cX2_weighSpans 22 = .ok (.aaload, 1) := by decide +kernel
theorem dX2_weighSpans_23 : decode cX2_weighSpans 23 = .ok (.iload_n 3, 1) := by decide +kernel
theorem dX2_weighSpans_24 : decode cX2_weighSpans 24 = .ok (.iconst 1, 1) := by decide +kernel
theorem dX2_weighSpans_25 : decode cX2_weighSpans 25 = .ok (.iadd, 1) := by decide +kernel
theorem dX2_weighSpans_26 : decode cX2_weighSpans 26 = .ok (.iconst 1, 1) := by decide +kernel
theorem dX2_weighSpans_27 : decode cX2_weighSpans 27 = .ok (.iastore, 1) := by decide +kernel
theorem dX2_weighSpans_28 : decode cX2_weighSpans 28 = .ok (.aload_n 0, 1) := by decide +kernel
theorem dX2_weighSpans_29 : decode cX2_weighSpans 29 = .ok (.getfield 16, 3) := by decide +kernel
theorem dX2_weighSpans_32 : decode cX2_weighSpans 32 = .ok (.iload_n 3, 1) := by decide +kernel
theorem dX2_weighSpans_33 : decode cX2_weighSpans 33 = .ok (.aaload, 1) := by decide +kernel
theorem dX2_weighSpans_34 : decode cX2_weighSpans 34 = .ok (.iload_n 3, 1) := by decide +kernel
theorem dX2_weighSpans_35 : decode cX2_weighSpans 35 = .ok (.iconst 1, 1) := by decide +kernel
theorem dX2_weighSpans_36 : decode cX2_weighSpans 36 = .ok (.iadd, 1) := by decide +kernel
theorem dX2_weighSpans_37 : decode cX2_weighSpans 37 = .ok (.iconst 0, 1) := by decide +kernel
theorem dX2_weighSpans_38 : decode cX2_weighSpans 38 = .ok (.iastore, 1) := by decide +kernel
theorem dX2_weighSpans_39 : decode cX2_weighSpans 39 = .ok (.iinc 3 1, 3) := by decide +kernel
theorem dX2_weighSpans_42 : decode cX2_weighSpans 42 = .ok (.goto (-32), 3) := by decide +kernel
theorem dX2_weighSpans_45 : decode cX2_weighSpans 45 = .ok (.iconst 2, 1) := by decide +kernel
theorem dX2_weighSpans_46 : decode cX2_weighSpans 46 = .ok (.istore_n 3, 1) := by decide +kernel
theorem dX2_weighSpans_47 : decode cX2_weighSpans 47 = .ok (.iload_n 3, 1) := by decide +kernel
theorem dX2_weighSpans_48 : decode cX2_weighSpans 48 = .ok (.iload_n 2, 1) := by decide +kernel
theorem dX2_weighSpans_49 : decode cX2_weighSpans 49 = .ok (.if_icmp .ge 37, 3) := by decide +kernel
theorem dX2_weighSpans_52 : decode cX2_weighSpans 52 = .ok (.iconst 0, 1) := by decide +kernel
theorem dX2_weighSpans_53 : decode cX2_weighSpans 53 = .ok (.istore 4, 2) := by decide +kernel
theorem dX2_weighSpans_55 : decode cX2_weighSpans 55 = .ok (.iload 4, 2) := by decide +kernel
theorem dX2_weighSpans_57 : decode cX2_weighSpans 57 = .ok (.iload_n 3, 1) := by decide +kernel
theorem dX2_weighSpans_58 : decode cX2_weighSpans 58 = .ok (.iadd, 1) := by decide +kernel
theorem dX2_weighSpans_59 : decode cX2_weighSpans 59 = .ok (.iload_n 2, 1) := by decide +kernel
theorem dX2_weighSpans_60 : decode cX2_weighSpans 60 = .ok (.if_icmp .ge 20, 3) := by decide +kernel
theorem dX2_weighSpans_63 : decode cX2_weighSpans 63 = .ok (.aload_n 0, 1) := by decide +kernel
theorem dX2_weighSpans_64 : decode cX2_weighSpans 64 = .ok (.aload_n 1, 1) := by decide +kernel
theorem dX2_weighSpans_65 : decode cX2_weighSpans 65 = .ok (.iload 4, 2) := by decide +kernel
theorem dX2_weighSpans_67 : decode cX2_weighSpans 67 = .ok (.iload 4, 2) := by decide +kernel
theorem dX2_weighSpans_69 : decode cX2_weighSpans 69 = .ok (.iload_n 3, 1) := by decide +kernel
theorem dX2_weighSpans_70 : decode cX2_weighSpans 70 = .ok (.iadd, 1) := by decide +kernel
theorem dX2_weighSpans_71 : decode cX2_weighSpans 71 = .ok (.invokevirtual 56, 3) := by decide +kernel
theorem dX2_weighSpans_74 : decode cX2_weighSpans 74 = .ok (.iinc 4 1, 3) := by decide +kernel
theorem dX2_weighSpans_77 : decode cX2_weighSpans 77 = .ok (.goto (-22), 3) := by decide +kernel
theorem dX2_weighSpans_80 : decode cX2_weighSpans 80 = .ok (.iinc 3 1, 3) := by decide +kernel
theorem dX2_weighSpans_83 : decode cX2_weighSpans 83 = .ok (.goto (-36), 3) := by decide +kernel
theorem dX2_weighSpans_86 : decode cX2_weighSpans 86 = .ok (.return_, 1) := by decide +kernel
set_option maxRecDepth 20000 in
theorem ggX2_weighSpan_X1_squaredLength : GoodIn wsX2_weighSpan wsX1_squaredLength := goodIn_r _ [10, 11, 12, 29, 30, 31] (by decide +kernel) (by decide +kernel)
set_option maxRecDepth 20000 in
theorem gX2_weighSpan_X1_squaredLength : GoodIn wsX2_weighSpan (wsV RX2 63 RX1 yX1_squaredLength wsX1_squaredLength) := goodIn_app (goodIn_of _ (by decide +kernel)) ggX2_weighSpan_X1_squaredLength
theorem dX2_weighSpan_0 : decode cX2_weighSpan 0 = .ok (.aload_n 0, 1) := by decide +kernel
theorem dX2_weighSpan_1 : decode cX2_weighSpan 1 = .ok (.getfield 11, 3) := by decide +kernel
theorem dX2_weighSpan_4 : decode cX2_weighSpan 4 = .ok (.iload_n 2, 1) := by decide +kernel
theorem dX2_weighSpan_5 : decode cX2_weighSpan 5 = .ok (.aaload, 1) := by decide +kernel
theorem dX2_weighSpan_6 : decode cX2_weighSpan 6 = .ok (.iload_n 3, 1) := by decide +kernel
theorem dX2_weighSpan_7 : decode cX2_weighSpan 7 = .ok (.iconst 0, 1) := by decide +kernel
theorem dX2_weighSpan_8 : decode cX2_weighSpan 8 = .ok (.iastore, 1) := by decide +kernel
theorem dX2_weighSpan_9 : decode cX2_weighSpan 9 = .ok (.aload_n 0, 1) := by decide +kernel
theorem dX2_weighSpan_10 : decode cX2_weighSpan 10 = .ok (.getfield 16, 3) := by decide +kernel
theorem dX2_weighSpan_13 : decode cX2_weighSpan 13 = .ok (.iload_n 2, 1) := by decide +kernel
theorem dX2_weighSpan_14 : decode cX2_weighSpan 14 = .ok (.aaload, 1) := by decide +kernel
theorem dX2_weighSpan_15 : decode cX2_weighSpan 15 = .ok (.iload_n 3, 1) := by decide +kernel
theorem dX2_weighSpan_16 : decode cX2_weighSpan 16 = .ok (.iconst 0, 1) := by decide +kernel
theorem dX2_weighSpan_17 : decode cX2_weighSpan 17 = .ok (.iastore, 1) := by decide +kernel
theorem dX2_weighSpan_18 : decode cX2_weighSpan 18 = .ok (.aload_n 0, 1) := by decide +kernel
theorem dX2_weighSpan_19 : decode cX2_weighSpan 19 = .ok (.getfield 19, 3) := by decide +kernel
theorem dX2_weighSpan_22 : decode cX2_weighSpan 22 = .ok (.iload_n 2, 1) := by decide +kernel
theorem dX2_weighSpan_23 : decode cX2_weighSpan 23 = .ok (.aaload, 1) := by decide +kernel
theorem dX2_weighSpan_24 : decode cX2_weighSpan 24 = .ok (.iload_n 3, 1) := by decide +kernel
theorem dX2_weighSpan_25 : decode cX2_weighSpan 25 = .ok (.iload_n 2, 1) := by decide +kernel
theorem dX2_weighSpan_26 : decode cX2_weighSpan 26 = .ok (.iconst 1, 1) := by decide +kernel
theorem dX2_weighSpan_27 : decode cX2_weighSpan 27 = .ok (.iadd, 1) := by decide +kernel
theorem dX2_weighSpan_28 : decode cX2_weighSpan 28 = .ok (.iastore, 1) := by decide +kernel
theorem dX2_weighSpan_29 : decode cX2_weighSpan 29 = .ok (.aload_n 1, 1) := by decide +kernel
theorem dX2_weighSpan_30 : decode cX2_weighSpan 30 = .ok (.getfield 60, 3) := by decide +kernel
theorem dX2_weighSpan_33 : decode cX2_weighSpan 33 = .ok (.iload_n 2, 1) := by decide +kernel
theorem dX2_weighSpan_34 : decode cX2_weighSpan 34 = .ok (.aaload, 1) := by decide +kernel
theorem dX2_weighSpan_35 : decode cX2_weighSpan 35 = .ok (.iload_n 3, 1) := by decide +kernel
theorem dX2_weighSpan_36 : decode cX2_weighSpan 36 = .ok (.iaload, 1) := by decide +kernel
theorem dX2_weighSpan_37 : decode cX2_weighSpan 37 = .ok (.ifCond .ne 4, 3) := by decide +kernel
theorem dX2_weighSpan_40 : decode cX2_weighSpan 40 = .ok (.return_, 1) := by decide +kernel
theorem dX2_weighSpan_41 : decode cX2_weighSpan 41 = .ok (.iload_n 2, 1) := by decide +kernel
theorem dX2_weighSpan_42 : decode cX2_weighSpan 42 = .ok (.iconst 1, 1) := by decide +kernel
theorem dX2_weighSpan_43 : decode cX2_weighSpan 43 = .ok (.iadd, 1) := by decide +kernel
theorem dX2_weighSpan_44 : decode cX2_weighSpan 44 = .ok (.istore 4, 2) := by decide +kernel
theorem dX2_weighSpan_46 : decode cX2_weighSpan 46 = .ok (.iload 4, 2) := by decide +kernel
theorem dX2_weighSpan_48 : decode cX2_weighSpan 48 = .ok (.iload_n 3, 1) := by decide +kernel
theorem dX2_weighSpan_49 : decode cX2_weighSpan 49 = .ok (.if_icmp .ge 113, 3) := by decide +kernel
theorem dX2_weighSpan_52 : decode cX2_weighSpan 52 = .ok (.aload_n 0, 1) := by decide +kernel
theorem dX2_weighSpan_53 : decode cX2_weighSpan 53 = .ok (.getfield 11, 3) := by decide +kernel
theorem dX2_weighSpan_56 : decode cX2_weighSpan 56 = .ok (.iload_n 2, 1) := by decide +kernel
theorem dX2_weighSpan_57 : decode cX2_weighSpan 57 = .ok (.aaload, 1) := by decide +kernel
theorem dX2_weighSpan_58 : decode cX2_weighSpan 58 = .ok (.iload 4, 2) := by decide +kernel
theorem dX2_weighSpan_60 : decode cX2_weighSpan 60 = .ok (.iaload, 1) := by decide +kernel
theorem dX2_weighSpan_61 : decode cX2_weighSpan 61 = .ok (.aload_n 0, 1) := by decide +kernel
theorem dX2_weighSpan_62 : decode cX2_weighSpan 62 = .ok (.getfield 11, 3) := by decide +kernel
theorem dX2_weighSpan_65 : decode cX2_weighSpan 65 = .ok (.iload 4, 2) := by decide +kernel
theorem dX2_weighSpan_67 : decode cX2_weighSpan 67 = .ok (.aaload, 1) := by decide +kernel
theorem dX2_weighSpan_68 : decode cX2_weighSpan 68 = .ok (.iload_n 3, 1) := by decide +kernel
theorem dX2_weighSpan_69 : decode cX2_weighSpan 69 = .ok (.iaload, 1) := by decide +kernel
theorem dX2_weighSpan_70 : decode cX2_weighSpan 70 = .ok (.imul, 1) := by decide +kernel
theorem dX2_weighSpan_71 : decode cX2_weighSpan 71 = .ok (.istore 5, 2) := by decide +kernel
theorem dX2_weighSpan_73 : decode cX2_weighSpan 73 = .ok (.aload_n 0, 1) := by decide +kernel
theorem dX2_weighSpan_74 : decode cX2_weighSpan 74 = .ok (.getfield 16, 3) := by decide +kernel
theorem dX2_weighSpan_77 : decode cX2_weighSpan 77 = .ok (.iload_n 2, 1) := by decide +kernel
theorem dX2_weighSpan_78 : decode cX2_weighSpan 78 = .ok (.aaload, 1) := by decide +kernel
theorem dX2_weighSpan_79 : decode cX2_weighSpan 79 = .ok (.iload 4, 2) := by decide +kernel
theorem dX2_weighSpan_81 : decode cX2_weighSpan 81 = .ok (.iaload, 1) := by decide +kernel
theorem dX2_weighSpan_82 : decode cX2_weighSpan 82 = .ok (.aload_n 0, 1) := by decide +kernel
theorem dX2_weighSpan_83 : decode cX2_weighSpan 83 = .ok (.getfield 16, 3) := by decide +kernel
theorem dX2_weighSpan_86 : decode cX2_weighSpan 86 = .ok (.iload 4, 2) := by decide +kernel
theorem dX2_weighSpan_88 : decode cX2_weighSpan 88 = .ok (.aaload, 1) := by decide +kernel
theorem dX2_weighSpan_89 : decode cX2_weighSpan 89 = .ok (.iload_n 3, 1) := by decide +kernel
theorem dX2_weighSpan_90 : decode cX2_weighSpan 90 = .ok (.iaload, 1) := by decide +kernel
theorem dX2_weighSpan_91 : decode cX2_weighSpan 91 = .ok (.iadd, 1) := by decide +kernel
theorem dX2_weighSpan_92 : decode cX2_weighSpan 92 = .ok (.istore 6, 2) := by decide +kernel
theorem dX2_weighSpan_94 : decode cX2_weighSpan 94 = .ok (.iload 5, 2) := by decide +kernel
theorem dX2_weighSpan_96 : decode cX2_weighSpan 96 = .ok (.ifCond .le 47, 3) := by decide +kernel
theorem dX2_weighSpan_99 : decode cX2_weighSpan 99 = .ok (.aload_n 0, 1) := by decide +kernel
theorem dX2_weighSpan_100 : decode cX2_weighSpan 100 = .ok (.getfield 11, 3) := by decide +kernel
theorem dX2_weighSpan_103 : decode cX2_weighSpan 103 = .ok (.iload_n 2, 1) := by decide +kernel
theorem dX2_weighSpan_104 : decode cX2_weighSpan 104 = .ok (.aaload, 1) := by decide +kernel
theorem dX2_weighSpan_105 : decode cX2_weighSpan 105 = .ok (.iload_n 3, 1) := by decide +kernel
theorem dX2_weighSpan_106 : decode cX2_weighSpan 106 = .ok (.iaload, 1) := by decide +kernel
theorem dX2_weighSpan_107 : decode cX2_weighSpan 107 = .ok (.ifCond .eq 16, 3) := by decide +kernel
theorem dX2_weighSpan_110 : decode cX2_weighSpan 110 = .ok (.iload 6, 2) := by decide +kernel
theorem dX2_weighSpan_112 : decode cX2_weighSpan 112 = .ok (.aload_n 0, 1) := by decide +kernel
theorem dX2_weighSpan_113 : decode cX2_weighSpan 113 = .ok (.getfield 16, 3) := by decide +kernel
theorem dX2_weighSpan_116 : decode cX2_weighSpan 116 = .ok (.iload_n 2, 1) := by decide +kernel
theorem dX2_weighSpan_117 : decode cX2_weighSpan 117 = .ok (.aaload, 1) := by decide +kernel
theorem dX2_weighSpan_118 : decode cX2_weighSpan 118 = .ok (.iload_n 3, 1) := by decide +kernel
theorem dX2_weighSpan_119 : decode cX2_weighSpan 119 = .ok (.iaload, 1) := by decide +kernel
theorem dX2_weighSpan_120 : decode cX2_weighSpan 120 = .ok (.if_icmp .ge 23, 3) := by decide +kernel
theorem dX2_weighSpan_123 : decode cX2_weighSpan 123 = .ok (.aload_n 0, 1) := by decide +kernel
theorem dX2_weighSpan_124 : decode cX2_weighSpan 124 = .ok (.getfield 16, 3) := by decide +kernel
theorem dX2_weighSpan_127 : decode cX2_weighSpan 127 = .ok (.iload_n 2, 1) := by decide +kernel
theorem dX2_weighSpan_128 : decode cX2_weighSpan 128 = .ok (.aaload, 1) := by decide +kernel
theorem dX2_weighSpan_129 : decode cX2_weighSpan 129 = .ok (.iload_n 3, 1) := by decide +kernel
theorem dX2_weighSpan_130 : decode cX2_weighSpan 130 = .ok (.iload 6, 2) := by decide +kernel
theorem dX2_weighSpan_132 : decode cX2_weighSpan 132 = .ok (.iastore, 1) := by decide +kernel
theorem dX2_weighSpan_133 : decode cX2_weighSpan 133 = .ok (.aload_n 0, 1) := by decide +kernel
theorem dX2_weighSpan_134 : decode cX2_weighSpan 134 = .ok (.getfield 19, 3) := by decide +kernel
theorem dX2_weighSpan_137 : decode cX2_weighSpan 137 = .ok (.iload_n 2, 1) := by decide +kernel
theorem dX2_weighSpan_138 : decode cX2_weighSpan 138 = .ok (.aaload, 1) := by decide +kernel
theorem dX2_weighSpan_139 : decode cX2_weighSpan 139 = .ok (.iload_n 3, 1) := by decide +kernel
theorem dX2_weighSpan_140 : decode cX2_weighSpan 140 = .ok (.iload 4, 2) := by decide +kernel
theorem dX2_weighSpan_142 : decode cX2_weighSpan 142 = .ok (.iastore, 1) := by decide +kernel
theorem dX2_weighSpan_143 : decode cX2_weighSpan 143 = .ok (.aload_n 0, 1) := by decide +kernel
theorem dX2_weighSpan_144 : decode cX2_weighSpan 144 = .ok (.getfield 11, 3) := by decide +kernel
theorem dX2_weighSpan_147 : decode cX2_weighSpan 147 = .ok (.iload_n 2, 1) := by decide +kernel
theorem dX2_weighSpan_148 : decode cX2_weighSpan 148 = .ok (.aaload, 1) := by decide +kernel
theorem dX2_weighSpan_149 : decode cX2_weighSpan 149 = .ok (.iload_n 3, 1) := by decide +kernel
theorem dX2_weighSpan_150 : decode cX2_weighSpan 150 = .ok (.dup2, 1) := by decide +kernel
theorem dX2_weighSpan_151 : decode cX2_weighSpan 151 = .ok (.iaload, 1) := by decide +kernel
theorem dX2_weighSpan_152 : decode cX2_weighSpan 152 = .ok (.iload 5, 2) := by decide +kernel
theorem dX2_weighSpan_154 : decode cX2_weighSpan 154 = .ok (.iadd, 1) := by decide +kernel
theorem dX2_weighSpan_155 : decode cX2_weighSpan 155 = .ok (.iastore, 1) := by decide +kernel
theorem dX2_weighSpan_156 : decode cX2_weighSpan 156 = .ok (.iinc 4 1, 3) := by decide +kernel
theorem dX2_weighSpan_159 : decode cX2_weighSpan 159 = .ok (.goto (-113), 3) := by decide +kernel
theorem dX2_weighSpan_162 : decode cX2_weighSpan 162 = .ok (.aload_n 1, 1) := by decide +kernel
theorem dX2_weighSpan_163 : decode cX2_weighSpan 163 = .ok (.getfield 60, 3) := by decide +kernel
theorem dX2_weighSpan_166 : decode cX2_weighSpan 166 = .ok (.iload_n 2, 1) := by decide +kernel
theorem dX2_weighSpan_167 : decode cX2_weighSpan 167 = .ok (.aaload, 1) := by decide +kernel
theorem dX2_weighSpan_168 : decode cX2_weighSpan 168 = .ok (.iload_n 3, 1) := by decide +kernel
theorem dX2_weighSpan_169 : decode cX2_weighSpan 169 = .ok (.iaload, 1) := by decide +kernel
theorem dX2_weighSpan_170 : decode cX2_weighSpan 170 = .ok (.iconst 1, 1) := by decide +kernel
theorem dX2_weighSpan_171 : decode cX2_weighSpan 171 = .ok (.if_icmp .ne 23, 3) := by decide +kernel
theorem dX2_weighSpan_174 : decode cX2_weighSpan 174 = .ok (.aload_n 0, 1) := by decide +kernel
theorem dX2_weighSpan_175 : decode cX2_weighSpan 175 = .ok (.getfield 16, 3) := by decide +kernel
theorem dX2_weighSpan_178 : decode cX2_weighSpan 178 = .ok (.iload_n 2, 1) := by decide +kernel
theorem dX2_weighSpan_179 : decode cX2_weighSpan 179 = .ok (.aaload, 1) := by decide +kernel
theorem dX2_weighSpan_180 : decode cX2_weighSpan 180 = .ok (.iload_n 3, 1) := by decide +kernel
theorem dX2_weighSpan_181 : decode cX2_weighSpan 181 = .ok (.dup2, 1) := by decide +kernel
theorem dX2_weighSpan_182 : decode cX2_weighSpan 182 = .ok (.iaload, 1) := by decide +kernel
theorem dX2_weighSpan_183 : decode cX2_weighSpan 183 = .ok (.aload_n 1, 1) := by decide +kernel
theorem dX2_weighSpan_184 : decode cX2_weighSpan 184 = .ok (.getfield 25, 3) := by decide +kernel
theorem dX2_weighSpan_187 : decode cX2_weighSpan 187 = .ok (.iload_n 2, 1) := by decide +kernel
theorem dX2_weighSpan_188 : decode cX2_weighSpan 188 = .ok (.iload_n 3, 1) := by decide +kernel
theorem dX2_weighSpan_189 : decode cX2_weighSpan 189 = .ok (.invokevirtual 63, 3) := by decide +kernel
theorem dX2_weighSpan_192 : decode cX2_weighSpan 192 = .ok (.iadd, 1) := by decide +kernel
theorem dX2_weighSpan_193 : decode cX2_weighSpan 193 = .ok (.iastore, 1) := by decide +kernel
theorem dX2_weighSpan_194 : decode cX2_weighSpan 194 = .ok (.return_, 1) := by decide +kernel
set_option maxRecDepth 20000 in
theorem ggX2_nameTriangles_X3_triangleCount : GoodIn wsX2_nameTriangles wsX3_triangleCount := goodIn_r _ [11, 12, 13, 18, 19, 20, 21, 22, 23, 24, 25, 26, 27, 28, 29, 30, 31, 32] (by decide +kernel) (by decide +kernel)
set_option maxRecDepth 20000 in
theorem gX2_nameTriangles_X3_triangleCount : GoodIn wsX2_nameTriangles (wsV RX2 74 RX3 yX3_triangleCount wsX3_triangleCount) := goodIn_app (goodIn_of _ (by decide +kernel)) ggX2_nameTriangles_X3_triangleCount
set_option maxRecDepth 20000 in
theorem ggX2_nameTriangles_X2_nameSpan : GoodIn wsX2_nameTriangles wsX2_nameSpan := goodIn_r _ [17, 1, 2, 7, 8, 9, 10, 11, 12, 13, 18, 19, 20, 21, 22, 23, 24, 25, 26, 27, 28, 29, 30, 31, 32] (by decide +kernel) (by decide +kernel)
set_option maxRecDepth 20000 in
theorem gX2_nameTriangles_X2_nameSpan : GoodIn wsX2_nameTriangles (va_wsS RX2 81 yX2_nameSpan wsX2_nameSpan) := goodIn_app (goodIn_of _ (by decide +kernel)) ggX2_nameTriangles_X2_nameSpan
theorem dX2_nameTriangles_0 : decode cX2_nameTriangles 0 = .ok (.aload_n 1, 1) := by decide +kernel
theorem dX2_nameTriangles_1 : decode cX2_nameTriangles 1 = .ok (.getfield 67, 3) := by decide +kernel
theorem dX2_nameTriangles_4 : decode cX2_nameTriangles 4 = .ok (.iconst 0, 1) := by decide +kernel
theorem dX2_nameTriangles_5 : decode cX2_nameTriangles 5 = .ok (.iconst 0, 1) := by decide +kernel
theorem dX2_nameTriangles_6 : decode cX2_nameTriangles 6 = .ok (.iastore, 1) := by decide +kernel
theorem dX2_nameTriangles_7 : decode cX2_nameTriangles 7 = .ok (.aload_n 1, 1) := by decide +kernel
theorem dX2_nameTriangles_8 : decode cX2_nameTriangles 8 = .ok (.getfield 71, 3) := by decide +kernel
theorem dX2_nameTriangles_11 : decode cX2_nameTriangles 11 = .ok (.iconst 0, 1) := by decide +kernel
theorem dX2_nameTriangles_12 : decode cX2_nameTriangles 12 = .ok (.aload_n 1, 1) := by decide +kernel
theorem dX2_nameTriangles_13 : decode cX2_nameTriangles 13 = .ok (.getfield 25, 3) := by decide +kernel
theorem dX2_nameTriangles_16 : decode cX2_nameTriangles 16 = .ok (.getfield 31, 3) := by decide +kernel
theorem dX2_nameTriangles_19 : decode cX2_nameTriangles 19 = .ok (.iconst 1, 1) := by decide +kernel
theorem dX2_nameTriangles_20 : decode cX2_nameTriangles 20 = .ok (.isub, 1) := by decide +kernel
theorem dX2_nameTriangles_21 : decode cX2_nameTriangles 21 = .ok (.iastore, 1) := by decide +kernel
theorem dX2_nameTriangles_22 : decode cX2_nameTriangles 22 = .ok (.iconst 0, 1) := by decide +kernel
theorem dX2_nameTriangles_23 : decode cX2_nameTriangles 23 = .ok (.istore_n 2, 1) := by decide +kernel
theorem dX2_nameTriangles_24 : decode cX2_nameTriangles 24 = .ok (.iload_n 2, 1) := by decide +kernel
theorem dX2_nameTriangles_25 : decode cX2_nameTriangles 25 = .ok (.aload_n 1, 1) := by decide +kernel
theorem dX2_nameTriangles_26 : decode cX2_nameTriangles 26 = .ok (.invokevirtual 74, 3) := by decide +kernel
theorem dX2_nameTriangles_29 : decode cX2_nameTriangles 29 = .ok (.if_icmp .ge 84, 3) := by decide +kernel
theorem dX2_nameTriangles_32 : decode cX2_nameTriangles 32 = .ok (.aload_n 1, 1) := by decide +kernel
theorem dX2_nameTriangles_33 : decode cX2_nameTriangles 33 = .ok (.getfield 67, 3) := by decide +kernel
theorem dX2_nameTriangles_36 : decode cX2_nameTriangles 36 = .ok (.iload_n 2, 1) := by decide +kernel
theorem dX2_nameTriangles_37 : decode cX2_nameTriangles 37 = .ok (.iaload, 1) := by decide +kernel
theorem dX2_nameTriangles_38 : decode cX2_nameTriangles 38 = .ok (.istore_n 3, 1) := by decide +kernel
theorem dX2_nameTriangles_39 : decode cX2_nameTriangles 39 = .ok (.aload_n 1, 1) := by decide +kernel
theorem dX2_nameTriangles_40 : decode cX2_nameTriangles 40 = .ok (.getfield 71, 3) := by decide +kernel
theorem dX2_nameTriangles_43 : decode cX2_nameTriangles 43 = .ok (.iload_n 2, 1) := by decide +kernel
theorem dX2_nameTriangles_44 : decode cX2_nameTriangles 44 = .ok (.iaload, 1) := by decide +kernel
theorem dX2_nameTriangles_45 : decode cX2_nameTriangles 45 = .ok (.istore 4, 2) := by decide +kernel
theorem dX2_nameTriangles_47 : decode cX2_nameTriangles 47 = .ok (.aload_n 0, 1) := by decide +kernel
theorem dX2_nameTriangles_48 : decode cX2_nameTriangles 48 = .ok (.getfield 19, 3) := by decide +kernel
theorem dX2_nameTriangles_51 : decode cX2_nameTriangles 51 = .ok (.iload_n 3, 1) := by decide +kernel
theorem dX2_nameTriangles_52 : decode cX2_nameTriangles 52 = .ok (.aaload, 1) := by decide +kernel
theorem dX2_nameTriangles_53 : decode cX2_nameTriangles 53 = .ok (.iload 4, 2) := by decide +kernel
theorem dX2_nameTriangles_55 : decode cX2_nameTriangles 55 = .ok (.iaload, 1) := by decide +kernel
theorem dX2_nameTriangles_56 : decode cX2_nameTriangles 56 = .ok (.istore 5, 2) := by decide +kernel
theorem dX2_nameTriangles_58 : decode cX2_nameTriangles 58 = .ok (.aload_n 1, 1) := by decide +kernel
theorem dX2_nameTriangles_59 : decode cX2_nameTriangles 59 = .ok (.getfield 78, 3) := by decide +kernel
theorem dX2_nameTriangles_62 : decode cX2_nameTriangles 62 = .ok (.iload_n 2, 1) := by decide +kernel
theorem dX2_nameTriangles_63 : decode cX2_nameTriangles 63 = .ok (.iload 5, 2) := by decide +kernel
theorem dX2_nameTriangles_65 : decode cX2_nameTriangles 65 = .ok (.iastore, 1) := by decide +kernel
theorem dX2_nameTriangles_66 : decode cX2_nameTriangles 66 = .ok (.iload 5, 2) := by decide +kernel
theorem dX2_nameTriangles_68 : decode cX2_nameTriangles 68 = .ok (.iload_n 3, 1) := by decide +kernel
theorem dX2_nameTriangles_69 : decode cX2_nameTriangles 69 = .ok (.isub, 1) := by decide +kernel
theorem dX2_nameTriangles_70 : decode cX2_nameTriangles 70 = .ok (.iconst 1, 1) := by decide +kernel
theorem dX2_nameTriangles_71 : decode cX2_nameTriangles 71 = .ok (.if_icmp .le 13, 3) := by decide +kernel
theorem dX2_nameTriangles_74 : decode cX2_nameTriangles 74 = .ok (.aload_n 1, 1) := by decide +kernel
theorem dX2_nameTriangles_75 : decode cX2_nameTriangles 75 = .ok (.iload_n 2, 1) := by decide +kernel
theorem dX2_nameTriangles_76 : decode cX2_nameTriangles 76 = .ok (.iconst 1, 1) := by decide +kernel
theorem dX2_nameTriangles_77 : decode cX2_nameTriangles 77 = .ok (.iadd, 1) := by decide +kernel
theorem dX2_nameTriangles_78 : decode cX2_nameTriangles 78 = .ok (.iload_n 3, 1) := by decide +kernel
theorem dX2_nameTriangles_79 : decode cX2_nameTriangles 79 = .ok (.iload 5, 2) := by decide +kernel
theorem dX2_nameTriangles_81 : decode cX2_nameTriangles 81 = .ok (.invokestatic 81, 3) := by decide +kernel
theorem dX2_nameTriangles_84 : decode cX2_nameTriangles 84 = .ok (.iload 4, 2) := by decide +kernel
theorem dX2_nameTriangles_86 : decode cX2_nameTriangles 86 = .ok (.iload 5, 2) := by decide +kernel
theorem dX2_nameTriangles_88 : decode cX2_nameTriangles 88 = .ok (.isub, 1) := by decide +kernel
theorem dX2_nameTriangles_89 : decode cX2_nameTriangles 89 = .ok (.iconst 1, 1) := by decide +kernel
theorem dX2_nameTriangles_90 : decode cX2_nameTriangles 90 = .ok (.if_icmp .le 17, 3) := by decide +kernel
theorem dX2_nameTriangles_93 : decode cX2_nameTriangles 93 = .ok (.aload_n 1, 1) := by decide +kernel
theorem dX2_nameTriangles_94 : decode cX2_nameTriangles 94 = .ok (.iload_n 2, 1) := by decide +kernel
theorem dX2_nameTriangles_95 : decode cX2_nameTriangles 95 = .ok (.iload 5, 2) := by decide +kernel
theorem dX2_nameTriangles_97 : decode cX2_nameTriangles 97 = .ok (.iadd, 1) := by decide +kernel
theorem dX2_nameTriangles_98 : decode cX2_nameTriangles 98 = .ok (.iload_n 3, 1) := by decide +kernel
theorem dX2_nameTriangles_99 : decode cX2_nameTriangles 99 = .ok (.isub, 1) := by decide +kernel
theorem dX2_nameTriangles_100 : decode cX2_nameTriangles 100 = .ok (.iload 5, 2) := by decide +kernel
theorem dX2_nameTriangles_102 : decode cX2_nameTriangles 102 = .ok (.iload 4, 2) := by decide +kernel
theorem dX2_nameTriangles_104 : decode cX2_nameTriangles 104 = .ok (.invokestatic 81, 3) := by decide +kernel
theorem dX2_nameTriangles_107 : decode cX2_nameTriangles 107 = .ok (.iinc 2 1, 3) := by decide +kernel
theorem dX2_nameTriangles_110 : decode cX2_nameTriangles 110 = .ok (.goto (-86), 3) := by decide +kernel
theorem dX2_nameTriangles_113 : decode cX2_nameTriangles 113 = .ok (.return_, 1) := by decide +kernel
set_option maxRecDepth 20000 in
theorem ggX2_nameSpan_X3_triangleCount : GoodIn wsX2_nameSpan wsX3_triangleCount := goodIn_r _ [7, 8, 9, 10, 11, 12, 13, 14, 15, 16, 17, 18, 19, 20, 21, 22, 23, 24] (by decide +kernel) (by decide +kernel)
set_option maxRecDepth 20000 in
theorem gX2_nameSpan_X3_triangleCount : GoodIn wsX2_nameSpan (wsV RX2 74 RX3 yX3_triangleCount wsX3_triangleCount) := goodIn_app (goodIn_of _ (by decide +kernel)) ggX2_nameSpan_X3_triangleCount
theorem dX2_nameSpan_0 : decode cX2_nameSpan 0 = .ok (.iload_n 1, 1) := by decide +kernel
theorem dX2_nameSpan_1 : decode cX2_nameSpan 1 = .ok (.ifCond .le 25, 3) := by decide +kernel
theorem dX2_nameSpan_4 : decode cX2_nameSpan 4 = .ok (.iload_n 1, 1) := by decide +kernel
theorem dX2_nameSpan_5 : decode cX2_nameSpan 5 = .ok (.aload_n 0, 1) := by decide +kernel
theorem dX2_nameSpan_6 : decode cX2_nameSpan 6 = .ok (.invokevirtual 74, 3) := by decide +kernel
theorem dX2_nameSpan_9 : decode cX2_nameSpan 9 = .ok (.if_icmp .ge 17, 3) := by decide +kernel
theorem dX2_nameSpan_12 : decode cX2_nameSpan 12 = .ok (.aload_n 0, 1) := by decide +kernel
theorem dX2_nameSpan_13 : decode cX2_nameSpan 13 = .ok (.getfield 67, 3) := by decide +kernel
theorem dX2_nameSpan_16 : decode cX2_nameSpan 16 = .ok (.iload_n 1, 1) := by decide +kernel
theorem dX2_nameSpan_17 : decode cX2_nameSpan 17 = .ok (.iload_n 2, 1) := by decide +kernel
theorem dX2_nameSpan_18 : decode cX2_nameSpan 18 = .ok (.iastore, 1) := by decide +kernel
theorem dX2_nameSpan_19 : decode cX2_nameSpan 19 = .ok (.aload_n 0, 1) := by decide +kernel
theorem dX2_nameSpan_20 : decode cX2_nameSpan 20 = .ok (.getfield 71, 3) := by decide +kernel
theorem dX2_nameSpan_23 : decode cX2_nameSpan 23 = .ok (.iload_n 1, 1) := by decide +kernel
theorem dX2_nameSpan_24 : decode cX2_nameSpan 24 = .ok (.iload_n 3, 1) := by decide +kernel
theorem dX2_nameSpan_25 : decode cX2_nameSpan 25 = .ok (.iastore, 1) := by decide +kernel
theorem dX2_nameSpan_26 : decode cX2_nameSpan 26 = .ok (.return_, 1) := by decide +kernel
set_option maxRecDepth 20000 in
theorem ggX2_nameDiagonals_X3_triangleCount : GoodIn wsX2_nameDiagonals wsX3_triangleCount := goodIn_r _ [13, 14, 15, 25, 26, 27, 28, 29, 30, 31, 32, 33, 34, 35, 36, 37, 38, 39] (by decide +kernel) (by decide +kernel)
set_option maxRecDepth 20000 in
theorem gX2_nameDiagonals_X3_triangleCount : GoodIn wsX2_nameDiagonals (wsV RX2 74 RX3 yX3_triangleCount wsX3_triangleCount) := goodIn_app (goodIn_of _ (by decide +kernel)) ggX2_nameDiagonals_X3_triangleCount
set_option maxRecDepth 20000 in
theorem ggX2_nameDiagonals_X2_join : GoodIn wsX2_nameDiagonals wsX2_join := goodIn_r _ [20, 3, 40, 41, 42, 43] (by decide +kernel) (by decide +kernel)
set_option maxRecDepth 20000 in
theorem gX2_nameDiagonals_X2_join : GoodIn wsX2_nameDiagonals (wsV RX2 85 RX2 yX2_join wsX2_join) := goodIn_app (goodIn_of _ (by decide +kernel)) ggX2_nameDiagonals_X2_join
set_option maxRecDepth 20000 in
theorem ggX2_nameDiagonals_X3_diagonalCount : GoodIn wsX2_nameDiagonals wsX3_diagonalCount := goodIn_r _ [24, 14, 15, 25, 26, 27, 28, 29, 30, 31, 32, 33, 34, 35, 36, 37, 38, 39] (by decide +kernel) (by decide +kernel)
set_option maxRecDepth 20000 in
theorem gX2_nameDiagonals_X3_diagonalCount : GoodIn wsX2_nameDiagonals (wsV RX2 89 RX3 yX3_diagonalCount wsX3_diagonalCount) := goodIn_app (goodIn_of _ (by decide +kernel)) ggX2_nameDiagonals_X3_diagonalCount
theorem dX2_nameDiagonals_0 : decode cX2_nameDiagonals 0 = .ok (.aload_n 1, 1) := by decide +kernel
theorem dX2_nameDiagonals_1 : decode cX2_nameDiagonals 1 = .ok (.getfield 25, 3) := by decide +kernel
theorem dX2_nameDiagonals_4 : decode cX2_nameDiagonals 4 = .ok (.getfield 31, 3) := by decide +kernel
theorem dX2_nameDiagonals_7 : decode cX2_nameDiagonals 7 = .ok (.istore_n 2, 1) := by decide +kernel
theorem dX2_nameDiagonals_8 : decode cX2_nameDiagonals 8 = .ok (.iconst 0, 1) := by decide +kernel
theorem dX2_nameDiagonals_9 : decode cX2_nameDiagonals 9 = .ok (.istore_n 3, 1) := by decide +kernel
theorem dX2_nameDiagonals_10 : decode cX2_nameDiagonals 10 = .ok (.iload_n 3, 1) := by decide +kernel
theorem dX2_nameDiagonals_11 : decode cX2_nameDiagonals 11 = .ok (.iload_n 2, 1) := by decide +kernel
theorem dX2_nameDiagonals_12 : decode cX2_nameDiagonals 12 = .ok (.if_icmp .ge 51, 3) := by decide +kernel
theorem dX2_nameDiagonals_15 : decode cX2_nameDiagonals 15 = .ok (.iconst 0, 1) := by decide +kernel
theorem dX2_nameDiagonals_16 : decode cX2_nameDiagonals 16 = .ok (.istore 4, 2) := by decide +kernel
theorem dX2_nameDiagonals_18 : decode cX2_nameDiagonals 18 = .ok (.iload 4, 2) := by decide +kernel
theorem dX2_nameDiagonals_20 : decode cX2_nameDiagonals 20 = .ok (.iload_n 2, 1) := by decide +kernel
theorem dX2_nameDiagonals_21 : decode cX2_nameDiagonals 21 = .ok (.if_icmp .ge 36, 3) := by decide +kernel
theorem dX2_nameDiagonals_24 : decode cX2_nameDiagonals 24 = .ok (.aload_n 0, 1) := by decide +kernel
theorem dX2_nameDiagonals_25 : decode cX2_nameDiagonals 25 = .ok (.getfield 22, 3) := by decide +kernel
theorem dX2_nameDiagonals_28 : decode cX2_nameDiagonals 28 = .ok (.iload_n 3, 1) := by decide +kernel
theorem dX2_nameDiagonals_29 : decode cX2_nameDiagonals 29 = .ok (.aaload, 1) := by decide +kernel
theorem dX2_nameDiagonals_30 : decode cX2_nameDiagonals 30 = .ok (.iload 4, 2) := by decide +kernel
theorem dX2_nameDiagonals_32 : decode cX2_nameDiagonals 32 = .ok (.aload_n 1, 1) := by decide +kernel
theorem dX2_nameDiagonals_33 : decode cX2_nameDiagonals 33 = .ok (.getfield 60, 3) := by decide +kernel
theorem dX2_nameDiagonals_36 : decode cX2_nameDiagonals 36 = .ok (.iload_n 3, 1) := by decide +kernel
theorem dX2_nameDiagonals_37 : decode cX2_nameDiagonals 37 = .ok (.aaload, 1) := by decide +kernel
theorem dX2_nameDiagonals_38 : decode cX2_nameDiagonals 38 = .ok (.iload 4, 2) := by decide +kernel
theorem dX2_nameDiagonals_40 : decode cX2_nameDiagonals 40 = .ok (.iaload, 1) := by decide +kernel
theorem dX2_nameDiagonals_41 : decode cX2_nameDiagonals 41 = .ok (.iconst 2, 1) := by decide +kernel
theorem dX2_nameDiagonals_42 : decode cX2_nameDiagonals 42 = .ok (.if_icmp .ne 7, 3) := by decide +kernel
theorem dX2_nameDiagonals_45 : decode cX2_nameDiagonals 45 = .ok (.iconst 1, 1) := by decide +kernel
theorem dX2_nameDiagonals_46 : decode cX2_nameDiagonals 46 = .ok (.goto 4, 3) := by decide +kernel
theorem dX2_nameDiagonals_49 : decode cX2_nameDiagonals 49 = .ok (.iconst 0, 1) := by decide +kernel
theorem dX2_nameDiagonals_50 : decode cX2_nameDiagonals 50 = .ok (.iastore, 1) := by decide +kernel
theorem dX2_nameDiagonals_51 : decode cX2_nameDiagonals 51 = .ok (.iinc 4 1, 3) := by decide +kernel
theorem dX2_nameDiagonals_54 : decode cX2_nameDiagonals 54 = .ok (.goto (-36), 3) := by decide +kernel
theorem dX2_nameDiagonals_57 : decode cX2_nameDiagonals 57 = .ok (.iinc 3 1, 3) := by decide +kernel
theorem dX2_nameDiagonals_60 : decode cX2_nameDiagonals 60 = .ok (.goto (-50), 3) := by decide +kernel
theorem dX2_nameDiagonals_63 : decode cX2_nameDiagonals 63 = .ok (.iconst 1, 1) := by decide +kernel
theorem dX2_nameDiagonals_64 : decode cX2_nameDiagonals 64 = .ok (.istore_n 3, 1) := by decide +kernel
theorem dX2_nameDiagonals_65 : decode cX2_nameDiagonals 65 = .ok (.iload_n 3, 1) := by decide +kernel
theorem dX2_nameDiagonals_66 : decode cX2_nameDiagonals 66 = .ok (.aload_n 1, 1) := by decide +kernel
theorem dX2_nameDiagonals_67 : decode cX2_nameDiagonals 67 = .ok (.invokevirtual 74, 3) := by decide +kernel
theorem dX2_nameDiagonals_70 : decode cX2_nameDiagonals 70 = .ok (.if_icmp .ge 26, 3) := by decide +kernel
theorem dX2_nameDiagonals_73 : decode cX2_nameDiagonals 73 = .ok (.aload_n 0, 1) := by decide +kernel
theorem dX2_nameDiagonals_74 : decode cX2_nameDiagonals 74 = .ok (.aload_n 1, 1) := by decide +kernel
theorem dX2_nameDiagonals_75 : decode cX2_nameDiagonals 75 = .ok (.getfield 67, 3) := by decide +kernel
theorem dX2_nameDiagonals_78 : decode cX2_nameDiagonals 78 = .ok (.iload_n 3, 1) := by decide +kernel
theorem dX2_nameDiagonals_79 : decode cX2_nameDiagonals 79 = .ok (.iaload, 1) := by decide +kernel
theorem dX2_nameDiagonals_80 : decode cX2_nameDiagonals 80 = .ok (.aload_n 1, 1) := by decide +kernel
theorem dX2_nameDiagonals_81 : decode cX2_nameDiagonals 81 = .ok (.getfield 71, 3) := by decide +kernel
theorem dX2_nameDiagonals_84 : decode cX2_nameDiagonals 84 = .ok (.iload_n 3, 1) := by decide +kernel
theorem dX2_nameDiagonals_85 : decode cX2_nameDiagonals 85 = .ok (.iaload, 1) := by decide +kernel
theorem dX2_nameDiagonals_86 : decode cX2_nameDiagonals 86 = .ok (.iconst 1, 1) := by decide +kernel
theorem dX2_nameDiagonals_87 : decode cX2_nameDiagonals 87 = .ok (.invokevirtual 85, 3) := by decide +kernel
theorem dX2_nameDiagonals_90 : decode cX2_nameDiagonals 90 = .ok (.iinc 3 1, 3) := by decide +kernel
theorem dX2_nameDiagonals_93 : decode cX2_nameDiagonals 93 = .ok (.goto (-28), 3) := by decide +kernel
theorem dX2_nameDiagonals_96 : decode cX2_nameDiagonals 96 = .ok (.iconst 0, 1) := by decide +kernel
theorem dX2_nameDiagonals_97 : decode cX2_nameDiagonals 97 = .ok (.istore_n 3, 1) := by decide +kernel
theorem dX2_nameDiagonals_98 : decode cX2_nameDiagonals 98 = .ok (.iconst 0, 1) := by decide +kernel
theorem dX2_nameDiagonals_99 : decode cX2_nameDiagonals 99 = .ok (.istore 4, 2) := by decide +kernel
theorem dX2_nameDiagonals_101 : decode cX2_nameDiagonals 101 = .ok (.iload 4, 2) := by decide +kernel
theorem dX2_nameDiagonals_103 : decode cX2_nameDiagonals 103 = .ok (.iload_n 2, 1) := by decide +kernel
theorem dX2_nameDiagonals_104 : decode cX2_nameDiagonals 104 = .ok (.if_icmp .ge 94, 3) := by decide +kernel
theorem dX2_nameDiagonals_107 : decode cX2_nameDiagonals 107 = .ok (.iload 4, 2) := by decide +kernel
theorem dX2_nameDiagonals_109 : decode cX2_nameDiagonals 109 = .ok (.iconst 1, 1) := by decide +kernel
theorem dX2_nameDiagonals_110 : decode cX2_nameDiagonals 110 = .ok (.iadd, 1) := by decide +kernel
theorem dX2_nameDiagonals_111 : decode cX2_nameDiagonals 111 = .ok (.istore 5, 2) := by decide +kernel
theorem dX2_nameDiagonals_113 : decode cX2_nameDiagonals 113 = .ok (.iload 5, 2) := by decide +kernel
theorem dX2_nameDiagonals_115 : decode cX2_nameDiagonals 115 = .ok (.iload_n 2, 1) := by decide +kernel
theorem dX2_nameDiagonals_116 : decode cX2_nameDiagonals 116 = .ok (.if_icmp .ge 76, 3) := by decide +kernel
theorem dX2_nameDiagonals_119 : decode cX2_nameDiagonals 119 = .ok (.aload_n 0, 1) := by decide +kernel
theorem dX2_nameDiagonals_120 : decode cX2_nameDiagonals 120 = .ok (.getfield 22, 3) := by decide +kernel
theorem dX2_nameDiagonals_123 : decode cX2_nameDiagonals 123 = .ok (.iload 4, 2) := by decide +kernel
theorem dX2_nameDiagonals_125 : decode cX2_nameDiagonals 125 = .ok (.aaload, 1) := by decide +kernel
theorem dX2_nameDiagonals_126 : decode cX2_nameDiagonals 126 = .ok (.iload 5, 2) := by decide +kernel
theorem dX2_nameDiagonals_128 : decode cX2_nameDiagonals 128 = .ok (.iaload, 1) := by decide +kernel
theorem dX2_nameDiagonals_129 : decode cX2_nameDiagonals 129 = .ok (.iconst 1, 1) := by decide +kernel
theorem dX2_nameDiagonals_130 : decode cX2_nameDiagonals 130 = .ok (.if_icmp .ne 21, 3) := by decide +kernel
theorem dX2_nameDiagonals_133 : decode cX2_nameDiagonals 133 = .ok (.aload_n 1, 1) := by decide +kernel
theorem dX2_nameDiagonals_134 : decode cX2_nameDiagonals 134 = .ok (.getfield 60, 3) := by decide +kernel
theorem dX2_nameDiagonals_137 : decode cX2_nameDiagonals 137 = .ok (.iload 4, 2) := by decide +kernel
theorem dX2_nameDiagonals_139 : decode cX2_nameDiagonals 139 = .ok (.aaload, 1) := by decide +kernel
theorem dX2_nameDiagonals_140 : decode cX2_nameDiagonals 140 = .ok (.iload 5, 2) := by decide +kernel
theorem dX2_nameDiagonals_142 : decode cX2_nameDiagonals 142 = .ok (.iaload, 1) := by decide +kernel
theorem dX2_nameDiagonals_143 : decode cX2_nameDiagonals 143 = .ok (.iconst 1, 1) := by decide +kernel
theorem dX2_nameDiagonals_144 : decode cX2_nameDiagonals 144 = .ok (.if_icmp .ne 7, 3) := by decide +kernel
theorem dX2_nameDiagonals_147 : decode cX2_nameDiagonals 147 = .ok (.iconst 1, 1) := by decide +kernel
theorem dX2_nameDiagonals_148 : decode cX2_nameDiagonals 148 = .ok (.goto 4, 3) := by decide +kernel
theorem dX2_nameDiagonals_151 : decode cX2_nameDiagonals 151 = .ok (.iconst 0, 1) := by decide +kernel
theorem dX2_nameDiagonals_152 : decode cX2_nameDiagonals 152 = .ok (.istore 6, 2) := by decide +kernel
theorem dX2_nameDiagonals_154 : decode cX2_nameDiagonals 154 = .ok (.iload 6, 2) := by decide +kernel
theorem dX2_nameDiagonals_156 : decode cX2_nameDiagonals 156 = .ok (.ifCond .eq 30, 3) := by decide +kernel
theorem dX2_nameDiagonals_159 : decode cX2_nameDiagonals 159 = .ok (.iload_n 3, 1) := by decide +kernel
theorem dX2_nameDiagonals_160 : decode cX2_nameDiagonals 160 = .ok (.aload_n 1, 1) := by decide +kernel
theorem dX2_nameDiagonals_161 : decode cX2_nameDiagonals 161 = .ok (.invokevirtual 89, 3) := by decide +kernel
theorem dX2_nameDiagonals_164 : decode cX2_nameDiagonals 164 = .ok (.if_icmp .ge 22, 3) := by decide +kernel
theorem dX2_nameDiagonals_167 : decode cX2_nameDiagonals 167 = .ok (.aload_n 1, 1) := by decide +kernel
theorem dX2_nameDiagonals_168 : decode cX2_nameDiagonals 168 = .ok (.getfield 92, 3) := by decide +kernel
theorem dX2_nameDiagonals_171 : decode cX2_nameDiagonals 171 = .ok (.iload_n 3, 1) := by decide +kernel
theorem dX2_nameDiagonals_172 : decode cX2_nameDiagonals 172 = .ok (.iload 4, 2) := by decide +kernel
theorem dX2_nameDiagonals_174 : decode cX2_nameDiagonals 174 = .ok (.iastore, 1) := by decide +kernel
theorem dX2_nameDiagonals_175 : decode cX2_nameDiagonals 175 = .ok (.aload_n 1, 1) := by decide +kernel
theorem dX2_nameDiagonals_176 : decode cX2_nameDiagonals 176 = .ok (.getfield 95, 3) := by decide +kernel
theorem dX2_nameDiagonals_179 : decode cX2_nameDiagonals 179 = .ok (.iload_n 3, 1) := by decide +kernel
theorem dX2_nameDiagonals_180 : decode cX2_nameDiagonals 180 = .ok (.iload 5, 2) := by decide +kernel
theorem dX2_nameDiagonals_182 : decode cX2_nameDiagonals 182 = .ok (.iastore, 1) := by decide +kernel
theorem dX2_nameDiagonals_183 : decode cX2_nameDiagonals 183 = .ok (.iinc 3 1, 3) := by decide +kernel
theorem dX2_nameDiagonals_186 : decode cX2_nameDiagonals 186 = .ok (.iinc 5 1, 3) := by decide +kernel
theorem dX2_nameDiagonals_189 : decode cX2_nameDiagonals 189 = .ok (.goto (-76), 3) := by decide +kernel
theorem dX2_nameDiagonals_192 : decode cX2_nameDiagonals 192 = .ok (.iinc 4 1, 3) := by decide +kernel
theorem dX2_nameDiagonals_195 : decode cX2_nameDiagonals 195 = .ok (.goto (-94), 3) := by decide +kernel
theorem dX2_nameDiagonals_198 : decode cX2_nameDiagonals 198 = .ok (.return_, 1) := by decide +kernel
theorem dX2_join_0 : decode cX2_join 0 = .ok (.aload_n 0, 1) := by decide +kernel
theorem dX2_join_1 : decode cX2_join 1 = .ok (.getfield 22, 3) := by decide +kernel
theorem dX2_join_4 : decode cX2_join 4 = .ok (.iload_n 1, 1) := by decide +kernel
theorem dX2_join_5 : decode cX2_join 5 = .ok (.aaload, 1) := by decide +kernel
theorem dX2_join_6 : decode cX2_join 6 = .ok (.iload_n 2, 1) := by decide +kernel
theorem dX2_join_7 : decode cX2_join 7 = .ok (.iload_n 3, 1) := by decide +kernel
theorem dX2_join_8 : decode cX2_join 8 = .ok (.iastore, 1) := by decide +kernel
theorem dX2_join_9 : decode cX2_join 9 = .ok (.aload_n 0, 1) := by decide +kernel
theorem dX2_join_10 : decode cX2_join 10 = .ok (.getfield 22, 3) := by decide +kernel
theorem dX2_join_13 : decode cX2_join 13 = .ok (.iload_n 2, 1) := by decide +kernel
theorem dX2_join_14 : decode cX2_join 14 = .ok (.aaload, 1) := by decide +kernel
theorem dX2_join_15 : decode cX2_join 15 = .ok (.iload_n 1, 1) := by decide +kernel
theorem dX2_join_16 : decode cX2_join 16 = .ok (.iload_n 3, 1) := by decide +kernel
theorem dX2_join_17 : decode cX2_join 17 = .ok (.iastore, 1) := by decide +kernel
theorem dX2_join_18 : decode cX2_join 18 = .ok (.return_, 1) := by decide +kernel
set_option maxRecDepth 20000 in
theorem ggX2_merge_X3_diagonalCount : GoodIn wsX2_merge wsX3_diagonalCount := goodIn_r _ [9, 10, 11, 53, 54, 55, 56, 57, 58, 59, 60, 61, 62, 63, 64, 65, 66, 67] (by decide +kernel) (by decide +kernel)
set_option maxRecDepth 20000 in
theorem gX2_merge_X3_diagonalCount : GoodIn wsX2_merge (wsV RX2 89 RX3 yX3_diagonalCount wsX3_diagonalCount) := goodIn_app (goodIn_of _ (by decide +kernel)) ggX2_merge_X3_diagonalCount
set_option maxRecDepth 20000 in
theorem ggX2_merge_X2_isConvexWithout : GoodIn wsX2_merge wsX2_isConvexWithout := goodIn_r _ [16, 17, 18, 19, 20, 15, 21, 22, 23, 24, 25, 26, 27, 28, 29, 30, 31, 32, 33, 34, 35, 36, 37, 38, 39, 40, 41, 42, 43, 44, 45, 46, 8, 47, 48, 53, 54, 55, 56, 57, 58, 59, 60, 61, 62, 63, 64, 65, 66, 67, 68, 69, 70, 71] (by decide +kernel) (by decide +kernel)
set_option maxRecDepth 20000 in
theorem gX2_merge_X2_isConvexWithout : GoodIn wsX2_merge (wsV RX2 101 RX2 yX2_isConvexWithout wsX2_isConvexWithout) := goodIn_app (goodIn_of _ (by decide +kernel)) ggX2_merge_X2_isConvexWithout
set_option maxRecDepth 20000 in
theorem ggX2_merge_X2_join : GoodIn wsX2_merge wsX2_join := goodIn_r _ [52, 23, 68, 69, 70, 71] (by decide +kernel) (by decide +kernel)
set_option maxRecDepth 20000 in
theorem gX2_merge_X2_join : GoodIn wsX2_merge (wsV RX2 85 RX2 yX2_join wsX2_join) := goodIn_app (goodIn_of _ (by decide +kernel)) ggX2_merge_X2_join
theorem dX2_merge_0 : decode cX2_merge 0 = .ok (.aload_n 1, 1) := by decide +kernel
theorem dX2_merge_1 : decode cX2_merge 1 = .ok (.iconst 1, 1) := by decide +kernel
theorem dX2_merge_2 : decode cX2_merge 2 = .ok (.putfield 98, 3) := by decide +kernel
theorem dX2_merge_5 : decode cX2_merge 5 = .ok (.iconst 0, 1) := by decide +kernel
theorem dX2_merge_6 : decode cX2_merge 6 = .ok (.istore_n 2, 1) := by decide +kernel
theorem dX2_merge_7 : decode cX2_merge 7 = .ok (.iload_n 2, 1) := by decide +kernel
theorem dX2_merge_8 : decode cX2_merge 8 = .ok (.aload_n 1, 1) := by decide +kernel
theorem dX2_merge_9 : decode cX2_merge 9 = .ok (.invokevirtual 89, 3) := by decide +kernel
theorem dX2_merge_12 : decode cX2_merge 12 = .ok (.if_icmp .ge 81, 3) := by decide +kernel
theorem dX2_merge_15 : decode cX2_merge 15 = .ok (.aload_n 1, 1) := by decide +kernel
theorem dX2_merge_16 : decode cX2_merge 16 = .ok (.getfield 92, 3) := by decide +kernel
theorem dX2_merge_19 : decode cX2_merge 19 = .ok (.iload_n 2, 1) := by decide +kernel
theorem dX2_merge_20 : decode cX2_merge 20 = .ok (.iaload, 1) := by decide +kernel
theorem dX2_merge_21 : decode cX2_merge 21 = .ok (.istore_n 3, 1) := by decide +kernel
theorem dX2_merge_22 : decode cX2_merge 22 = .ok (.aload_n 1, 1) := by decide +kernel
theorem dX2_merge_23 : decode cX2_merge 23 = .ok (.getfield 95, 3) := by decide +kernel
theorem dX2_merge_26 : decode cX2_merge 26 = .ok (.iload_n 2, 1) := by decide +kernel
theorem dX2_merge_27 : decode cX2_merge 27 = .ok (.iaload, 1) := by decide +kernel
theorem dX2_merge_28 : decode cX2_merge 28 = .ok (.istore 4, 2) := by decide +kernel
theorem dX2_merge_30 : decode cX2_merge 30 = .ok (.aload_n 0, 1) := by decide +kernel
theorem dX2_merge_31 : decode cX2_merge 31 = .ok (.aload_n 1, 1) := by decide +kernel
theorem dX2_merge_32 : decode cX2_merge 32 = .ok (.iload_n 3, 1) := by decide +kernel
theorem dX2_merge_33 : decode cX2_merge 33 = .ok (.iload 4, 2) := by decide +kernel
theorem dX2_merge_35 : decode cX2_merge 35 = .ok (.invokevirtual 101, 3) := by decide +kernel
theorem dX2_merge_38 : decode cX2_merge 38 = .ok (.ifCond .eq 32, 3) := by decide +kernel
theorem dX2_merge_41 : decode cX2_merge 41 = .ok (.aload_n 0, 1) := by decide +kernel
theorem dX2_merge_42 : decode cX2_merge 42 = .ok (.aload_n 1, 1) := by decide +kernel
theorem dX2_merge_43 : decode cX2_merge 43 = .ok (.iload 4, 2) := by decide +kernel
theorem dX2_merge_45 : decode cX2_merge 45 = .ok (.iload_n 3, 1) := by decide +kernel
theorem dX2_merge_46 : decode cX2_merge 46 = .ok (.invokevirtual 101, 3) := by decide +kernel
theorem dX2_merge_49 : decode cX2_merge 49 = .ok (.ifCond .eq 21, 3) := by decide +kernel
theorem dX2_merge_52 : decode cX2_merge 52 = .ok (.aload_n 0, 1) := by decide +kernel
theorem dX2_merge_53 : decode cX2_merge 53 = .ok (.iload_n 3, 1) := by decide +kernel
theorem dX2_merge_54 : decode cX2_merge 54 = .ok (.iload 4, 2) := by decide +kernel
theorem dX2_merge_56 : decode cX2_merge 56 = .ok (.iconst 0, 1) := by decide +kernel
theorem dX2_merge_57 : decode cX2_merge 57 = .ok (.invokevirtual 85, 3) := by decide +kernel
theorem dX2_merge_60 : decode cX2_merge 60 = .ok (.aload_n 1, 1) := by decide +kernel
theorem dX2_merge_61 : decode cX2_merge 61 = .ok (.getfield 105, 3) := by decide +kernel
theorem dX2_merge_64 : decode cX2_merge 64 = .ok (.iload_n 2, 1) := by decide +kernel
theorem dX2_merge_65 : decode cX2_merge 65 = .ok (.iconst 0, 1) := by decide +kernel
theorem dX2_merge_66 : decode cX2_merge 66 = .ok (.iastore, 1) := by decide +kernel
theorem dX2_merge_67 : decode cX2_merge 67 = .ok (.goto 20, 3) := by decide +kernel
theorem dX2_merge_70 : decode cX2_merge 70 = .ok (.aload_n 1, 1) := by decide +kernel
theorem dX2_merge_71 : decode cX2_merge 71 = .ok (.getfield 105, 3) := by decide +kernel
theorem dX2_merge_74 : decode cX2_merge 74 = .ok (.iload_n 2, 1) := by decide +kernel
theorem dX2_merge_75 : decode cX2_merge 75 = .ok (.iconst 1, 1) := by decide +kernel
theorem dX2_merge_76 : decode cX2_merge 76 = .ok (.iastore, 1) := by decide +kernel
theorem dX2_merge_77 : decode cX2_merge 77 = .ok (.aload_n 1, 1) := by decide +kernel
theorem dX2_merge_78 : decode cX2_merge 78 = .ok (.dup, 1) := by decide +kernel
theorem dX2_merge_79 : decode cX2_merge 79 = .ok (.getfield 98, 3) := by decide +kernel
theorem dX2_merge_82 : decode cX2_merge 82 = .ok (.iconst 1, 1) := by decide +kernel
theorem dX2_merge_83 : decode cX2_merge 83 = .ok (.iadd, 1) := by decide +kernel
theorem dX2_merge_84 : decode cX2_merge 84 = .ok (.putfield 98, 3) := by decide +kernel
theorem dX2_merge_87 : decode cX2_merge 87 = .ok (.iinc 2 1, 3) := by decide +kernel
theorem dX2_merge_90 : decode cX2_merge 90 = .ok (.goto (-83), 3) := by decide +kernel
theorem dX2_merge_93 : decode cX2_merge 93 = .ok (.return_, 1) := by decide +kernel
set_option maxRecDepth 20000 in
theorem ggX2_isConvexWithout_X2_joinedBefore : GoodIn wsX2_isConvexWithout wsX2_joinedBefore := goodIn_r _ [6, 7, 8, 9, 10, 11, 12, 13, 14, 47, 48, 49, 50, 51, 52, 53] (by decide +kernel) (by decide +kernel)
set_option maxRecDepth 20000 in
theorem gX2_isConvexWithout_X2_joinedBefore : GoodIn wsX2_isConvexWithout (wsV RX2 108 RX2 yX2_joinedBefore wsX2_joinedBefore) := goodIn_app (goodIn_of _ (by decide +kernel)) ggX2_isConvexWithout_X2_joinedBefore
set_option maxRecDepth 20000 in
theorem ggX2_isConvexWithout_X2_joinedAfter : GoodIn wsX2_isConvexWithout wsX2_joinedAfter := goodIn_r _ [18, 7, 8, 19, 20, 21, 12, 22, 14, 47, 48, 49, 50, 51, 52, 53] (by decide +kernel) (by decide +kernel)
set_option maxRecDepth 20000 in
theorem gX2_isConvexWithout_X2_joinedAfter : GoodIn wsX2_isConvexWithout (wsV RX2 112 RX2 yX2_joinedAfter wsX2_joinedAfter) := goodIn_app (goodIn_of _ (by decide +kernel)) ggX2_isConvexWithout_X2_joinedAfter
set_option maxRecDepth 20000 in
theorem ggX2_isConvexWithout_X1_turn : GoodIn wsX2_isConvexWithout wsX1_turn := goodIn_r _ [26, 27, 28, 47, 48, 49] (by decide +kernel) (by decide +kernel)
set_option maxRecDepth 20000 in
theorem gX2_isConvexWithout_X1_turn : GoodIn wsX2_isConvexWithout (wsV RX2 115 RX1 yX1_turn wsX1_turn) := goodIn_app (goodIn_of _ (by decide +kernel)) ggX2_isConvexWithout_X1_turn
set_option maxRecDepth 20000 in
theorem ggX2_isConvexWithout_X3_hand : GoodIn wsX2_isConvexWithout wsX3_hand := goodIn_r _ [33, 34, 35, 36, 37, 38, 39, 40, 41, 42, 43, 44, 45, 46] (by decide +kernel) (by decide +kernel)
set_option maxRecDepth 20000 in
theorem gX2_isConvexWithout_X3_hand : GoodIn wsX2_isConvexWithout (wsV RX2 119 RX3 yX3_hand wsX3_hand) := goodIn_app (goodIn_of _ (by decide +kernel)) ggX2_isConvexWithout_X3_hand
theorem dX2_isConvexWithout_0 : decode cX2_isConvexWithout 0 = .ok (.aload_n 0, 1) := by decide +kernel
theorem dX2_isConvexWithout_1 : decode cX2_isConvexWithout 1 = .ok (.aload_n 1, 1) := by decide +kernel
theorem dX2_isConvexWithout_2 : decode cX2_isConvexWithout 2 = .ok (.getfield 25, 3) := by decide +kernel
theorem dX2_isConvexWithout_5 : decode cX2_isConvexWithout 5 = .ok (.iload_n 2, 1) := by decide +kernel
theorem dX2_isConvexWithout_6 : decode cX2_isConvexWithout 6 = .ok (.iload_n 3, 1) := by decide +kernel
theorem dX2_isConvexWithout_7 : decode cX2_isConvexWithout 7 = .ok (.invokevirtual 108, 3) := by decide +kernel
theorem dX2_isConvexWithout_10 : decode cX2_isConvexWithout 10 = .ok (.istore 4, 2) := by decide +kernel
theorem dX2_isConvexWithout_12 : decode cX2_isConvexWithout 12 = .ok (.aload_n 0, 1) := by decide +kernel
theorem dX2_isConvexWithout_13 : decode cX2_isConvexWithout 13 = .ok (.aload_n 1, 1) := by decide +kernel
theorem dX2_isConvexWithout_14 : decode cX2_isConvexWithout 14 = .ok (.getfield 25, 3) := by decide +kernel
theorem dX2_isConvexWithout_17 : decode cX2_isConvexWithout 17 = .ok (.iload_n 2, 1) := by decide +kernel
theorem dX2_isConvexWithout_18 : decode cX2_isConvexWithout 18 = .ok (.iload_n 3, 1) := by decide +kernel
theorem dX2_isConvexWithout_19 : decode cX2_isConvexWithout 19 = .ok (.invokevirtual 112, 3) := by decide +kernel
theorem dX2_isConvexWithout_22 : decode cX2_isConvexWithout 22 = .ok (.istore 5, 2) := by decide +kernel
theorem dX2_isConvexWithout_24 : decode cX2_isConvexWithout 24 = .ok (.aload_n 1, 1) := by decide +kernel
theorem dX2_isConvexWithout_25 : decode cX2_isConvexWithout 25 = .ok (.getfield 25, 3) := by decide +kernel
theorem dX2_isConvexWithout_28 : decode cX2_isConvexWithout 28 = .ok (.iload_n 2, 1) := by decide +kernel
theorem dX2_isConvexWithout_29 : decode cX2_isConvexWithout 29 = .ok (.iload 4, 2) := by decide +kernel
theorem dX2_isConvexWithout_31 : decode cX2_isConvexWithout 31 = .ok (.iload 5, 2) := by decide +kernel
theorem dX2_isConvexWithout_33 : decode cX2_isConvexWithout 33 = .ok (.invokevirtual 115, 3) := by decide +kernel
theorem dX2_isConvexWithout_36 : decode cX2_isConvexWithout 36 = .ok (.aload_n 1, 1) := by decide +kernel
theorem dX2_isConvexWithout_37 : decode cX2_isConvexWithout 37 = .ok (.invokevirtual 119, 3) := by decide +kernel
theorem dX2_isConvexWithout_40 : decode cX2_isConvexWithout 40 = .ok (.imul, 1) := by decide +kernel
theorem dX2_isConvexWithout_41 : decode cX2_isConvexWithout 41 = .ok (.ifCond .lt 7, 3) := by decide +kernel
theorem dX2_isConvexWithout_44 : decode cX2_isConvexWithout 44 = .ok (.iconst 1, 1) := by decide +kernel
theorem dX2_isConvexWithout_45 : decode cX2_isConvexWithout 45 = .ok (.goto 4, 3) := by decide +kernel
theorem dX2_isConvexWithout_48 : decode cX2_isConvexWithout 48 = .ok (.iconst 0, 1) := by decide +kernel
theorem dX2_isConvexWithout_49 : decode cX2_isConvexWithout 49 = .ok (.ireturn, 1) := by decide +kernel
set_option maxRecDepth 20000 in
theorem ggX2_joinedBefore_X1_before : GoodIn wsX2_joinedBefore wsX1_before := goodIn_r _ [7, 8, 9, 10, 11] (by decide +kernel) (by decide +kernel)
set_option maxRecDepth 20000 in
theorem gX2_joinedBefore_X1_before : GoodIn wsX2_joinedBefore (wsV RX2 122 RX1 yX1_before wsX1_before) := goodIn_app (goodIn_of _ (by decide +kernel)) ggX2_joinedBefore_X1_before
theorem dX2_joinedBefore_0 : decode cX2_joinedBefore 0 = .ok (.aload_n 1, 1) := by decide +kernel
theorem dX2_joinedBefore_1 : decode cX2_joinedBefore 1 = .ok (.iload_n 3, 1) := by decide +kernel
theorem dX2_joinedBefore_2 : decode cX2_joinedBefore 2 = .ok (.invokevirtual 122, 3) := by decide +kernel
theorem dX2_joinedBefore_5 : decode cX2_joinedBefore 5 = .ok (.istore 4, 2) := by decide +kernel
theorem dX2_joinedBefore_7 : decode cX2_joinedBefore 7 = .ok (.iconst 0, 1) := by decide +kernel
theorem dX2_joinedBefore_8 : decode cX2_joinedBefore 8 = .ok (.istore 5, 2) := by decide +kernel
theorem dX2_joinedBefore_10 : decode cX2_joinedBefore 10 = .ok (.iload 5, 2) := by decide +kernel
theorem dX2_joinedBefore_12 : decode cX2_joinedBefore 12 = .ok (.aload_n 1, 1) := by decide +kernel
theorem dX2_joinedBefore_13 : decode cX2_joinedBefore 13 = .ok (.getfield 31, 3) := by decide +kernel
theorem dX2_joinedBefore_16 : decode cX2_joinedBefore 16 = .ok (.if_icmp .ge 29, 3) := by decide +kernel
theorem dX2_joinedBefore_19 : decode cX2_joinedBefore 19 = .ok (.aload_n 0, 1) := by decide +kernel
theorem dX2_joinedBefore_20 : decode cX2_joinedBefore 20 = .ok (.getfield 22, 3) := by decide +kernel
theorem dX2_joinedBefore_23 : decode cX2_joinedBefore 23 = .ok (.iload_n 2, 1) := by decide +kernel
theorem dX2_joinedBefore_24 : decode cX2_joinedBefore 24 = .ok (.aaload, 1) := by decide +kernel
theorem dX2_joinedBefore_25 : decode cX2_joinedBefore 25 = .ok (.iload 4, 2) := by decide +kernel
theorem dX2_joinedBefore_27 : decode cX2_joinedBefore 27 = .ok (.iaload, 1) := by decide +kernel
theorem dX2_joinedBefore_28 : decode cX2_joinedBefore 28 = .ok (.ifCond .ne 17, 3) := by decide +kernel
theorem dX2_joinedBefore_31 : decode cX2_joinedBefore 31 = .ok (.aload_n 1, 1) := by decide +kernel
theorem dX2_joinedBefore_32 : decode cX2_joinedBefore 32 = .ok (.iload 4, 2) := by decide +kernel
theorem dX2_joinedBefore_34 : decode cX2_joinedBefore 34 = .ok (.invokevirtual 122, 3) := by decide +kernel
theorem dX2_joinedBefore_37 : decode cX2_joinedBefore 37 = .ok (.istore 4, 2) := by decide +kernel
theorem dX2_joinedBefore_39 : decode cX2_joinedBefore 39 = .ok (.iinc 5 1, 3) := by decide +kernel
theorem dX2_joinedBefore_42 : decode cX2_joinedBefore 42 = .ok (.goto (-32), 3) := by decide +kernel
theorem dX2_joinedBefore_45 : decode cX2_joinedBefore 45 = .ok (.iload 4, 2) := by decide +kernel
theorem dX2_joinedBefore_47 : decode cX2_joinedBefore 47 = .ok (.ireturn, 1) := by decide +kernel
set_option maxRecDepth 20000 in
theorem ggX2_joinedAfter_X1_after : GoodIn wsX2_joinedAfter wsX1_after := goodIn_r _ [7, 8, 9, 10, 11] (by decide +kernel) (by decide +kernel)
set_option maxRecDepth 20000 in
theorem gX2_joinedAfter_X1_after : GoodIn wsX2_joinedAfter (wsV RX2 126 RX1 yX1_after wsX1_after) := goodIn_app (goodIn_of _ (by decide +kernel)) ggX2_joinedAfter_X1_after
theorem dX2_joinedAfter_0 : decode cX2_joinedAfter 0 = .ok (.aload_n 1, 1) := by decide +kernel
theorem dX2_joinedAfter_1 : decode cX2_joinedAfter 1 = .ok (.iload_n 3, 1) := by decide +kernel
theorem dX2_joinedAfter_2 : decode cX2_joinedAfter 2 = .ok (.invokevirtual 126, 3) := by decide +kernel
theorem dX2_joinedAfter_5 : decode cX2_joinedAfter 5 = .ok (.istore 4, 2) := by decide +kernel
theorem dX2_joinedAfter_7 : decode cX2_joinedAfter 7 = .ok (.iconst 0, 1) := by decide +kernel
theorem dX2_joinedAfter_8 : decode cX2_joinedAfter 8 = .ok (.istore 5, 2) := by decide +kernel
theorem dX2_joinedAfter_10 : decode cX2_joinedAfter 10 = .ok (.iload 5, 2) := by decide +kernel
theorem dX2_joinedAfter_12 : decode cX2_joinedAfter 12 = .ok (.aload_n 1, 1) := by decide +kernel
theorem dX2_joinedAfter_13 : decode cX2_joinedAfter 13 = .ok (.getfield 31, 3) := by decide +kernel
theorem dX2_joinedAfter_16 : decode cX2_joinedAfter 16 = .ok (.if_icmp .ge 29, 3) := by decide +kernel
theorem dX2_joinedAfter_19 : decode cX2_joinedAfter 19 = .ok (.aload_n 0, 1) := by decide +kernel
theorem dX2_joinedAfter_20 : decode cX2_joinedAfter 20 = .ok (.getfield 22, 3) := by decide +kernel
theorem dX2_joinedAfter_23 : decode cX2_joinedAfter 23 = .ok (.iload_n 2, 1) := by decide +kernel
theorem dX2_joinedAfter_24 : decode cX2_joinedAfter 24 = .ok (.aaload, 1) := by decide +kernel
theorem dX2_joinedAfter_25 : decode cX2_joinedAfter 25 = .ok (.iload 4, 2) := by decide +kernel
theorem dX2_joinedAfter_27 : decode cX2_joinedAfter 27 = .ok (.iaload, 1) := by decide +kernel
theorem dX2_joinedAfter_28 : decode cX2_joinedAfter 28 = .ok (.ifCond .ne 17, 3) := by decide +kernel
theorem dX2_joinedAfter_31 : decode cX2_joinedAfter 31 = .ok (.aload_n 1, 1) := by decide +kernel
theorem dX2_joinedAfter_32 : decode cX2_joinedAfter 32 = .ok (.iload 4, 2) := by decide +kernel
theorem dX2_joinedAfter_34 : decode cX2_joinedAfter 34 = .ok (.invokevirtual 126, 3) := by decide +kernel
theorem dX2_joinedAfter_37 : decode cX2_joinedAfter 37 = .ok (.istore 4, 2) := by decide +kernel
theorem dX2_joinedAfter_39 : decode cX2_joinedAfter 39 = .ok (.iinc 5 1, 3) := by decide +kernel
theorem dX2_joinedAfter_42 : decode cX2_joinedAfter 42 = .ok (.goto (-32), 3) := by decide +kernel
theorem dX2_joinedAfter_45 : decode cX2_joinedAfter 45 = .ok (.iload 4, 2) := by decide +kernel
theorem dX2_joinedAfter_47 : decode cX2_joinedAfter 47 = .ok (.ireturn, 1) := by decide +kernel
