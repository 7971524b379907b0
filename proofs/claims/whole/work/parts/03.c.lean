set_option maxRecDepth 20000 in
theorem ggX3_init_X1_init : GoodIn wsX3_init wsX1_init := goodIn_r _ [22, 23, 2, 3, 9, 24, 25, 26, 27, 28, 29] (by decide +kernel) (by decide +kernel)
set_option maxRecDepth 20000 in
theorem gX3_init_X1_init_n11 : GoodIn wsX3_init (wsX1_init) := ggX3_init_X1_init
theorem dX3_init_0 : decode cX3_init 0 = .ok (.aload_n 0, 1) := by decide +kernel
theorem dX3_init_1 : decode cX3_init 1 = .ok (.invokespecial 3, 3) := by decide +kernel
theorem dX3_init_4 : decode cX3_init 4 = .ok (.aload_n 0, 1) := by decide +kernel
theorem dX3_init_5 : decode cX3_init 5 = .ok (.new 9, 3) := by decide +kernel
theorem dX3_init_8 : decode cX3_init 8 = .ok (.dup, 1) := by decide +kernel
theorem dX3_init_9 : decode cX3_init 9 = .ok (.invokespecial 11, 3) := by decide +kernel
theorem dX3_init_12 : decode cX3_init 12 = .ok (.putfield 12, 3) := by decide +kernel
theorem dX3_init_15 : decode cX3_init 15 = .ok (.aload_n 0, 1) := by decide +kernel
theorem dX3_init_16 : decode cX3_init 16 = .ok (.bipush 14, 2) := by decide +kernel
theorem dX3_init_18 : decode cX3_init 18 = .ok (.bipush 14, 2) := by decide +kernel
theorem dX3_init_20 : decode cX3_init 20 = .ok (.multianewarray 18 2, 4) := by decide +kernel
theorem dX3_init_24 : decode cX3_init 24 = .ok (.putfield 20, 3) := by decide +kernel
theorem dX3_init_27 : decode cX3_init 27 = .ok (.aload_n 0, 1) := by decide +kernel
theorem dX3_init_28 : decode cX3_init 28 = .ok (.iconst 0, 1) := by decide +kernel
theorem dX3_init_29 : decode cX3_init 29 = .ok (.putfield 23, 3) := by decide +kernel
theorem dX3_init_32 : decode cX3_init 32 = .ok (.aload_n 0, 1) := by decide +kernel
theorem dX3_init_33 : decode cX3_init 33 = .ok (.iconst 0, 1) := by decide +kernel
theorem dX3_init_34 : decode cX3_init 34 = .ok (.putfield 27, 3) := by decide +kernel
theorem dX3_init_37 : decode cX3_init 37 = .ok (.aload_n 0, 1) := by decide +kernel
theorem dX3_init_38 : decode cX3_init 38 = .ok (.iconst 0, 1) := by decide +kernel
theorem dX3_init_39 : decode cX3_init 39 = .ok (.putfield 30, 3) := by decide +kernel
theorem dX3_init_42 : decode cX3_init 42 = .ok (.aload_n 0, 1) := by decide +kernel
theorem dX3_init_43 : decode cX3_init 43 = .ok (.iconst 0, 1) := by decide +kernel
theorem dX3_init_44 : decode cX3_init 44 = .ok (.putfield 33, 3) := by decide +kernel
theorem dX3_init_47 : decode cX3_init 47 = .ok (.aload_n 0, 1) := by decide +kernel
theorem dX3_init_48 : decode cX3_init 48 = .ok (.bipush 14, 2) := by decide +kernel
theorem dX3_init_50 : decode cX3_init 50 = .ok (.newarray .int, 2) := by decide +kernel
theorem dX3_init_52 : decode cX3_init 52 = .ok (.putfield 36, 3) := by decide +kernel
theorem dX3_init_55 : decode cX3_init 55 = .ok (.aload_n 0, 1) := by decide +kernel
theorem dX3_init_56 : decode cX3_init 56 = .ok (.bipush 14, 2) := by decide +kernel
theorem dX3_init_58 : decode cX3_init 58 = .ok (.newarray .int, 2) := by decide +kernel
theorem dX3_init_60 : decode cX3_init 60 = .ok (.putfield 40, 3) := by decide +kernel
theorem dX3_init_63 : decode cX3_init 63 = .ok (.aload_n 0, 1) := by decide +kernel
theorem dX3_init_64 : decode cX3_init 64 = .ok (.bipush 14, 2) := by decide +kernel
theorem dX3_init_66 : decode cX3_init 66 = .ok (.newarray .int, 2) := by decide +kernel
theorem dX3_init_68 : decode cX3_init 68 = .ok (.putfield 43, 3) := by decide +kernel
theorem dX3_init_71 : decode cX3_init 71 = .ok (.aload_n 0, 1) := by decide +kernel
theorem dX3_init_72 : decode cX3_init 72 = .ok (.bipush 14, 2) := by decide +kernel
theorem dX3_init_74 : decode cX3_init 74 = .ok (.newarray .int, 2) := by decide +kernel
theorem dX3_init_76 : decode cX3_init 76 = .ok (.putfield 46, 3) := by decide +kernel
theorem dX3_init_79 : decode cX3_init 79 = .ok (.aload_n 0, 1) := by decide +kernel
theorem dX3_init_80 : decode cX3_init 80 = .ok (.bipush 14, 2) := by decide +kernel
theorem dX3_init_82 : decode cX3_init 82 = .ok (.newarray .int, 2) := by decide +kernel
theorem dX3_init_84 : decode cX3_init 84 = .ok (.putfield 49, 3) := by decide +kernel
theorem dX3_init_87 : decode cX3_init 87 = .ok (.aload_n 0, 1) := by decide +kernel
theorem dX3_init_88 : decode cX3_init 88 = .ok (.bipush 14, 2) := by decide +kernel
theorem dX3_init_90 : decode cX3_init 90 = .ok (.newarray .int, 2) := by decide +kernel
theorem dX3_init_92 : decode cX3_init 92 = .ok (.putfield 52, 3) := by decide +kernel
theorem dX3_init_95 : decode cX3_init 95 = .ok (.return_, 1) := by decide +kernel
set_option maxRecDepth 20000 in
theorem ggX3_become_X1_copyOf : GoodIn wsX3_become wsX1_copyOf := goodIn_r _ [8, 9, 10, 11, 12, 13, 14, 15, 39, 40, 41] (by decide +kernel) (by decide +kernel)
set_option maxRecDepth 20000 in
theorem gX3_become_X1_copyOf : GoodIn wsX3_become (wsV RX3 55 RX1 yX1_copyOf wsX1_copyOf) := goodIn_app (goodIn_of _ (by decide +kernel)) ggX3_become_X1_copyOf
set_option maxRecDepth 20000 in
theorem ggX3_become_X3_crossOfEdge : GoodIn wsX3_become wsX3_crossOfEdge := goodIn_r _ [20, 1, 21, 22, 23, 24, 25, 7, 26, 9, 27, 28, 29, 30, 31, 32, 33, 34, 35, 36, 37, 38, 39, 40, 41] (by decide +kernel) (by decide +kernel)
set_option maxRecDepth 20000 in
theorem gX3_become_X3_crossOfEdge : GoodIn wsX3_become (wsV RX3 62 RX3 yX3_crossOfEdge wsX3_crossOfEdge) := goodIn_app (goodIn_of _ (by decide +kernel)) ggX3_become_X3_crossOfEdge
theorem dX3_become_0 : decode cX3_become 0 = .ok (.aload_n 0, 1) := by decide +kernel
theorem dX3_become_1 : decode cX3_become 1 = .ok (.getfield 12, 3) := by decide +kernel
theorem dX3_become_4 : decode cX3_become 4 = .ok (.aload_n 1, 1) := by decide +kernel
theorem dX3_become_5 : decode cX3_become 5 = .ok (.invokevirtual 55, 3) := by decide +kernel
theorem dX3_become_8 : decode cX3_become 8 = .ok (.aload_n 0, 1) := by decide +kernel
theorem dX3_become_9 : decode cX3_become 9 = .ok (.iconst 0, 1) := by decide +kernel
theorem dX3_become_10 : decode cX3_become 10 = .ok (.putfield 23, 3) := by decide +kernel
theorem dX3_become_13 : decode cX3_become 13 = .ok (.iconst 0, 1) := by decide +kernel
theorem dX3_become_14 : decode cX3_become 14 = .ok (.istore_n 2, 1) := by decide +kernel
theorem dX3_become_15 : decode cX3_become 15 = .ok (.iload_n 2, 1) := by decide +kernel
theorem dX3_become_16 : decode cX3_become 16 = .ok (.aload_n 0, 1) := by decide +kernel
theorem dX3_become_17 : decode cX3_become 17 = .ok (.getfield 12, 3) := by decide +kernel
theorem dX3_become_20 : decode cX3_become 20 = .ok (.getfield 59, 3) := by decide +kernel
theorem dX3_become_23 : decode cX3_become 23 = .ok (.if_icmp .ge 23, 3) := by decide +kernel
theorem dX3_become_26 : decode cX3_become 26 = .ok (.aload_n 0, 1) := by decide +kernel
theorem dX3_become_27 : decode cX3_become 27 = .ok (.dup, 1) := by decide +kernel
theorem dX3_become_28 : decode cX3_become 28 = .ok (.getfield 23, 3) := by decide +kernel
theorem dX3_become_31 : decode cX3_become 31 = .ok (.aload_n 0, 1) := by decide +kernel
theorem dX3_become_32 : decode cX3_become 32 = .ok (.iload_n 2, 1) := by decide +kernel
theorem dX3_become_33 : decode cX3_become 33 = .ok (.invokevirtual 62, 3) := by decide +kernel
theorem dX3_become_36 : decode cX3_become 36 = .ok (.iadd, 1) := by decide +kernel
theorem dX3_become_37 : decode cX3_become 37 = .ok (.putfield 23, 3) := by decide +kernel
theorem dX3_become_40 : decode cX3_become 40 = .ok (.iinc 2 1, 3) := by decide +kernel
theorem dX3_become_43 : decode cX3_become 43 = .ok (.goto (-28), 3) := by decide +kernel
theorem dX3_become_46 : decode cX3_become 46 = .ok (.return_, 1) := by decide +kernel
set_option maxRecDepth 20000 in
theorem ggX3_lookAround_X3_look : GoodIn wsX3_lookAround wsX3_look := goodIn_r _ [8, 1, 9, 10, 11, 12, 13, 14, 15, 16, 17, 18, 19, 7, 20, 2, 21, 22, 23, 24, 25, 26, 27, 28, 29, 30, 31, 32, 33, 34, 35, 36, 37, 38, 39, 40, 41, 42, 43, 44, 45, 46, 47, 48, 49, 50, 51, 52, 53, 54, 55, 56, 57, 58, 59, 60, 61, 62, 63] (by decide +kernel) (by decide +kernel)
set_option maxRecDepth 20000 in
theorem gX3_lookAround_X3_look : GoodIn wsX3_lookAround (wsV RX3 66 RX3 yX3_look wsX3_look) := goodIn_app (goodIn_of _ (by decide +kernel)) ggX3_lookAround_X3_look
theorem dX3_lookAround_0 : decode cX3_lookAround 0 = .ok (.iconst 0, 1) := by decide +kernel
theorem dX3_lookAround_1 : decode cX3_lookAround 1 = .ok (.istore_n 1, 1) := by decide +kernel
theorem dX3_lookAround_2 : decode cX3_lookAround 2 = .ok (.iload_n 1, 1) := by decide +kernel
theorem dX3_lookAround_3 : decode cX3_lookAround 3 = .ok (.aload_n 0, 1) := by decide +kernel
theorem dX3_lookAround_4 : decode cX3_lookAround 4 = .ok (.getfield 12, 3) := by decide +kernel
theorem dX3_lookAround_7 : decode cX3_lookAround 7 = .ok (.getfield 59, 3) := by decide +kernel
theorem dX3_lookAround_10 : decode cX3_lookAround 10 = .ok (.if_icmp .ge 61, 3) := by decide +kernel
theorem dX3_lookAround_13 : decode cX3_lookAround 13 = .ok (.aload_n 0, 1) := by decide +kernel
theorem dX3_lookAround_14 : decode cX3_lookAround 14 = .ok (.getfield 20, 3) := by decide +kernel
theorem dX3_lookAround_17 : decode cX3_lookAround 17 = .ok (.iload_n 1, 1) := by decide +kernel
theorem dX3_lookAround_18 : decode cX3_lookAround 18 = .ok (.aaload, 1) := by decide +kernel
theorem dX3_lookAround_19 : decode cX3_lookAround 19 = .ok (.iload_n 1, 1) := by decide +kernel
theorem dX3_lookAround_20 : decode cX3_lookAround 20 = .ok (.iconst 0, 1) := by decide +kernel
theorem dX3_lookAround_21 : decode cX3_lookAround 21 = .ok (.iastore, 1) := by decide +kernel
theorem dX3_lookAround_22 : decode cX3_lookAround 22 = .ok (.iconst 0, 1) := by decide +kernel
theorem dX3_lookAround_23 : decode cX3_lookAround 23 = .ok (.istore_n 2, 1) := by decide +kernel
theorem dX3_lookAround_24 : decode cX3_lookAround 24 = .ok (.iload_n 2, 1) := by decide +kernel
theorem dX3_lookAround_25 : decode cX3_lookAround 25 = .ok (.iload_n 1, 1) := by decide +kernel
theorem dX3_lookAround_26 : decode cX3_lookAround 26 = .ok (.if_icmp .ge 39, 3) := by decide +kernel
theorem dX3_lookAround_29 : decode cX3_lookAround 29 = .ok (.aload_n 0, 1) := by decide +kernel
theorem dX3_lookAround_30 : decode cX3_lookAround 30 = .ok (.getfield 20, 3) := by decide +kernel
theorem dX3_lookAround_33 : decode cX3_lookAround 33 = .ok (.iload_n 1, 1) := by decide +kernel
theorem dX3_lookAround_34 : decode cX3_lookAround 34 = .ok (.aaload, 1) := by decide +kernel
theorem dX3_lookAround_35 : decode cX3_lookAround 35 = .ok (.iload_n 2, 1) := by decide +kernel
theorem dX3_lookAround_36 : decode cX3_lookAround 36 = .ok (.aload_n 0, 1) := by decide +kernel
theorem dX3_lookAround_37 : decode cX3_lookAround 37 = .ok (.iload_n 1, 1) := by decide +kernel
theorem dX3_lookAround_38 : decode cX3_lookAround 38 = .ok (.iload_n 2, 1) := by decide +kernel
theorem dX3_lookAround_39 : decode cX3_lookAround 39 = .ok (.invokevirtual 66, 3) := by decide +kernel
theorem dX3_lookAround_42 : decode cX3_lookAround 42 = .ok (.iastore, 1) := by decide +kernel
theorem dX3_lookAround_43 : decode cX3_lookAround 43 = .ok (.aload_n 0, 1) := by decide +kernel
theorem dX3_lookAround_44 : decode cX3_lookAround 44 = .ok (.getfield 20, 3) := by decide +kernel
theorem dX3_lookAround_47 : decode cX3_lookAround 47 = .ok (.iload_n 2, 1) := by decide +kernel
theorem dX3_lookAround_48 : decode cX3_lookAround 48 = .ok (.aaload, 1) := by decide +kernel
theorem dX3_lookAround_49 : decode cX3_lookAround 49 = .ok (.iload_n 1, 1) := by decide +kernel
theorem dX3_lookAround_50 : decode cX3_lookAround 50 = .ok (.aload_n 0, 1) := by decide +kernel
theorem dX3_lookAround_51 : decode cX3_lookAround 51 = .ok (.getfield 20, 3) := by decide +kernel
theorem dX3_lookAround_54 : decode cX3_lookAround 54 = .ok (.iload_n 1, 1) := by decide +kernel
theorem dX3_lookAround_55 : decode cX3_lookAround 55 = .ok (.aaload, 1) := by decide +kernel
theorem dX3_lookAround_56 : decode cX3_lookAround 56 = .ok (.iload_n 2, 1) := by decide +kernel
theorem dX3_lookAround_57 : decode cX3_lookAround 57 = .ok (.iaload, 1) := by decide +kernel
theorem dX3_lookAround_58 : decode cX3_lookAround 58 = .ok (.iastore, 1) := by decide +kernel
theorem dX3_lookAround_59 : decode cX3_lookAround 59 = .ok (.iinc 2 1, 3) := by decide +kernel
theorem dX3_lookAround_62 : decode cX3_lookAround 62 = .ok (.goto (-38), 3) := by decide +kernel
theorem dX3_lookAround_65 : decode cX3_lookAround 65 = .ok (.iinc 1 1, 3) := by decide +kernel
theorem dX3_lookAround_68 : decode cX3_lookAround 68 = .ok (.goto (-66), 3) := by decide +kernel
theorem dX3_lookAround_71 : decode cX3_lookAround 71 = .ok (.return_, 1) := by decide +kernel
theorem dX3_triangleCount_0 : decode cX3_triangleCount 0 = .ok (.aload_n 0, 1) := by decide +kernel
theorem dX3_triangleCount_1 : decode cX3_triangleCount 1 = .ok (.getfield 12, 3) := by decide +kernel
theorem dX3_triangleCount_4 : decode cX3_triangleCount 4 = .ok (.getfield 59, 3) := by decide +kernel
theorem dX3_triangleCount_7 : decode cX3_triangleCount 7 = .ok (.iconst 2, 1) := by decide +kernel
theorem dX3_triangleCount_8 : decode cX3_triangleCount 8 = .ok (.isub, 1) := by decide +kernel
theorem dX3_triangleCount_9 : decode cX3_triangleCount 9 = .ok (.ireturn, 1) := by decide +kernel
theorem dX3_diagonalCount_0 : decode cX3_diagonalCount 0 = .ok (.aload_n 0, 1) := by decide +kernel
theorem dX3_diagonalCount_1 : decode cX3_diagonalCount 1 = .ok (.getfield 12, 3) := by decide +kernel
theorem dX3_diagonalCount_4 : decode cX3_diagonalCount 4 = .ok (.getfield 59, 3) := by decide +kernel
theorem dX3_diagonalCount_7 : decode cX3_diagonalCount 7 = .ok (.iconst 3, 1) := by decide +kernel
theorem dX3_diagonalCount_8 : decode cX3_diagonalCount 8 = .ok (.isub, 1) := by decide +kernel
theorem dX3_diagonalCount_9 : decode cX3_diagonalCount 9 = .ok (.ireturn, 1) := by decide +kernel
theorem dX3_hand_0 : decode cX3_hand 0 = .ok (.aload_n 0, 1) := by decide +kernel
theorem dX3_hand_1 : decode cX3_hand 1 = .ok (.getfield 23, 3) := by decide +kernel
theorem dX3_hand_4 : decode cX3_hand 4 = .ok (.ifCond .le 7, 3) := by decide +kernel
theorem dX3_hand_7 : decode cX3_hand 7 = .ok (.iconst 1, 1) := by decide +kernel
theorem dX3_hand_8 : decode cX3_hand 8 = .ok (.goto 4, 3) := by decide +kernel
theorem dX3_hand_11 : decode cX3_hand 11 = .ok (.iconst (-1), 1) := by decide +kernel
theorem dX3_hand_12 : decode cX3_hand 12 = .ok (.ireturn, 1) := by decide +kernel
set_option maxRecDepth 20000 in
theorem ggX3_centroidMoment_X1_along : GoodIn wsX3_centroidMoment wsX1_along := goodIn_r _ [7, 8, 9, 34, 35, 36] (by decide +kernel) (by decide +kernel)
set_option maxRecDepth 20000 in
theorem gX3_centroidMoment_X1_along : GoodIn wsX3_centroidMoment (wsV RX3 70 RX1 yX1_along wsX1_along) := goodIn_app (goodIn_of _ (by decide +kernel)) ggX3_centroidMoment_X1_along
set_option maxRecDepth 20000 in
theorem ggX3_centroidMoment_X1_after : GoodIn wsX3_centroidMoment wsX1_after := goodIn_r _ [13, 14, 34, 35, 36] (by decide +kernel) (by decide +kernel)
set_option maxRecDepth 20000 in
theorem gX3_centroidMoment_X1_after : GoodIn wsX3_centroidMoment (wsV RX3 74 RX1 yX1_after wsX1_after) := goodIn_app (goodIn_of _ (by decide +kernel)) ggX3_centroidMoment_X1_after
set_option maxRecDepth 20000 in
theorem ggX3_centroidMoment_X3_crossOfEdge : GoodIn wsX3_centroidMoment wsX3_crossOfEdge := goodIn_r _ [19, 1, 20, 21, 10, 11, 12, 6, 13, 14, 22, 23, 24, 25, 26, 27, 28, 29, 30, 31, 32, 33, 34, 35, 36] (by decide +kernel) (by decide +kernel)
set_option maxRecDepth 20000 in
theorem gX3_centroidMoment_X3_crossOfEdge : GoodIn wsX3_centroidMoment (wsV RX3 62 RX3 yX3_crossOfEdge wsX3_crossOfEdge) := goodIn_app (goodIn_of _ (by decide +kernel)) ggX3_centroidMoment_X3_crossOfEdge
theorem dX3_centroidMoment_0 : decode cX3_centroidMoment 0 = .ok (.aload_n 0, 1) := by decide +kernel
theorem dX3_centroidMoment_1 : decode cX3_centroidMoment 1 = .ok (.getfield 12, 3) := by decide +kernel
theorem dX3_centroidMoment_4 : decode cX3_centroidMoment 4 = .ok (.iload_n 1, 1) := by decide +kernel
theorem dX3_centroidMoment_5 : decode cX3_centroidMoment 5 = .ok (.invokevirtual 70, 3) := by decide +kernel
theorem dX3_centroidMoment_8 : decode cX3_centroidMoment 8 = .ok (.astore_n 2, 1) := by decide +kernel
theorem dX3_centroidMoment_9 : decode cX3_centroidMoment 9 = .ok (.lconst 0, 1) := by decide +kernel
theorem dX3_centroidMoment_10 : decode cX3_centroidMoment 10 = .ok (.lstore_n 3, 1) := by decide +kernel
theorem dX3_centroidMoment_11 : decode cX3_centroidMoment 11 = .ok (.iconst 0, 1) := by decide +kernel
theorem dX3_centroidMoment_12 : decode cX3_centroidMoment 12 = .ok (.istore 5, 2) := by decide +kernel
theorem dX3_centroidMoment_14 : decode cX3_centroidMoment 14 = .ok (.iload 5, 2) := by decide +kernel
theorem dX3_centroidMoment_16 : decode cX3_centroidMoment 16 = .ok (.aload_n 0, 1) := by decide +kernel
theorem dX3_centroidMoment_17 : decode cX3_centroidMoment 17 = .ok (.getfield 12, 3) := by decide +kernel
theorem dX3_centroidMoment_20 : decode cX3_centroidMoment 20 = .ok (.getfield 59, 3) := by decide +kernel
theorem dX3_centroidMoment_23 : decode cX3_centroidMoment 23 = .ok (.if_icmp .ge 37, 3) := by decide +kernel
theorem dX3_centroidMoment_26 : decode cX3_centroidMoment 26 = .ok (.lload_n 3, 1) := by decide +kernel
theorem dX3_centroidMoment_27 : decode cX3_centroidMoment 27 = .ok (.aload_n 2, 1) := by decide +kernel
theorem dX3_centroidMoment_28 : decode cX3_centroidMoment 28 = .ok (.iload 5, 2) := by decide +kernel
theorem dX3_centroidMoment_30 : decode cX3_centroidMoment 30 = .ok (.iaload, 1) := by decide +kernel
theorem dX3_centroidMoment_31 : decode cX3_centroidMoment 31 = .ok (.aload_n 2, 1) := by decide +kernel
theorem dX3_centroidMoment_32 : decode cX3_centroidMoment 32 = .ok (.aload_n 0, 1) := by decide +kernel
theorem dX3_centroidMoment_33 : decode cX3_centroidMoment 33 = .ok (.getfield 12, 3) := by decide +kernel
theorem dX3_centroidMoment_36 : decode cX3_centroidMoment 36 = .ok (.iload 5, 2) := by decide +kernel
theorem dX3_centroidMoment_38 : decode cX3_centroidMoment 38 = .ok (.invokevirtual 74, 3) := by decide +kernel
theorem dX3_centroidMoment_41 : decode cX3_centroidMoment 41 = .ok (.iaload, 1) := by decide +kernel
theorem dX3_centroidMoment_42 : decode cX3_centroidMoment 42 = .ok (.iadd, 1) := by decide +kernel
theorem dX3_centroidMoment_43 : decode cX3_centroidMoment 43 = .ok (.i2l, 1) := by decide +kernel
theorem dX3_centroidMoment_44 : decode cX3_centroidMoment 44 = .ok (.aload_n 0, 1) := by decide +kernel
theorem dX3_centroidMoment_45 : decode cX3_centroidMoment 45 = .ok (.iload 5, 2) := by decide +kernel
theorem dX3_centroidMoment_47 : decode cX3_centroidMoment 47 = .ok (.invokevirtual 62, 3) := by decide +kernel
theorem dX3_centroidMoment_50 : decode cX3_centroidMoment 50 = .ok (.i2l, 1) := by decide +kernel
theorem dX3_centroidMoment_51 : decode cX3_centroidMoment 51 = .ok (.lmul, 1) := by decide +kernel
theorem dX3_centroidMoment_52 : decode cX3_centroidMoment 52 = .ok (.ladd, 1) := by decide +kernel
theorem dX3_centroidMoment_53 : decode cX3_centroidMoment 53 = .ok (.lstore_n 3, 1) := by decide +kernel
theorem dX3_centroidMoment_54 : decode cX3_centroidMoment 54 = .ok (.iinc 5 1, 3) := by decide +kernel
theorem dX3_centroidMoment_57 : decode cX3_centroidMoment 57 = .ok (.goto (-43), 3) := by decide +kernel
theorem dX3_centroidMoment_60 : decode cX3_centroidMoment 60 = .ok (.lload_n 3, 1) := by decide +kernel
theorem dX3_centroidMoment_61 : decode cX3_centroidMoment 61 = .ok (.lreturn, 1) := by decide +kernel
set_option maxRecDepth 20000 in
theorem ggX3_pointsOnEdges_X1_after : GoodIn wsX3_pointsOnEdges wsX1_after := goodIn_r _ [9, 10, 30, 31, 32] (by decide +kernel) (by decide +kernel)
set_option maxRecDepth 20000 in
theorem gX3_pointsOnEdges_X1_after : GoodIn wsX3_pointsOnEdges (wsV RX3 74 RX1 yX1_after wsX1_after) := goodIn_app (goodIn_of _ (by decide +kernel)) ggX3_pointsOnEdges_X1_after
set_option maxRecDepth 20000 in
theorem ggX3_pointsOnEdges_X5_greatestDivisor : GoodIn wsX3_pointsOnEdges wsX5_greatestDivisor := goodIn_r _ [13, 14, 15, 16, 17] (by decide +kernel) (by decide +kernel)
set_option maxRecDepth 20000 in
theorem gX3_pointsOnEdges_X5_greatestDivisor_n83 : GoodIn wsX3_pointsOnEdges (wsX5_greatestDivisor) := ggX3_pointsOnEdges_X5_greatestDivisor
theorem dX3_pointsOnEdges_0 : decode cX3_pointsOnEdges 0 = .ok (.iconst 0, 1) := by decide +kernel
theorem dX3_pointsOnEdges_1 : decode cX3_pointsOnEdges 1 = .ok (.istore_n 1, 1) := by decide +kernel
theorem dX3_pointsOnEdges_2 : decode cX3_pointsOnEdges 2 = .ok (.iconst 0, 1) := by decide +kernel
theorem dX3_pointsOnEdges_3 : decode cX3_pointsOnEdges 3 = .ok (.istore_n 2, 1) := by decide +kernel
theorem dX3_pointsOnEdges_4 : decode cX3_pointsOnEdges 4 = .ok (.iload_n 2, 1) := by decide +kernel
theorem dX3_pointsOnEdges_5 : decode cX3_pointsOnEdges 5 = .ok (.aload_n 0, 1) := by decide +kernel
theorem dX3_pointsOnEdges_6 : decode cX3_pointsOnEdges 6 = .ok (.getfield 12, 3) := by decide +kernel
theorem dX3_pointsOnEdges_9 : decode cX3_pointsOnEdges 9 = .ok (.getfield 59, 3) := by decide +kernel
theorem dX3_pointsOnEdges_12 : decode cX3_pointsOnEdges 12 = .ok (.if_icmp .ge 65, 3) := by decide +kernel
theorem dX3_pointsOnEdges_15 : decode cX3_pointsOnEdges 15 = .ok (.aload_n 0, 1) := by decide +kernel
theorem dX3_pointsOnEdges_16 : decode cX3_pointsOnEdges 16 = .ok (.getfield 12, 3) := by decide +kernel
theorem dX3_pointsOnEdges_19 : decode cX3_pointsOnEdges 19 = .ok (.iload_n 2, 1) := by decide +kernel
theorem dX3_pointsOnEdges_20 : decode cX3_pointsOnEdges 20 = .ok (.invokevirtual 74, 3) := by decide +kernel
theorem dX3_pointsOnEdges_23 : decode cX3_pointsOnEdges 23 = .ok (.istore_n 3, 1) := by decide +kernel
theorem dX3_pointsOnEdges_24 : decode cX3_pointsOnEdges 24 = .ok (.iload_n 1, 1) := by decide +kernel
theorem dX3_pointsOnEdges_25 : decode cX3_pointsOnEdges 25 = .ok (.aload_n 0, 1) := by decide +kernel
theorem dX3_pointsOnEdges_26 : decode cX3_pointsOnEdges 26 = .ok (.getfield 12, 3) := by decide +kernel
theorem dX3_pointsOnEdges_29 : decode cX3_pointsOnEdges 29 = .ok (.getfield 77, 3) := by decide +kernel
theorem dX3_pointsOnEdges_32 : decode cX3_pointsOnEdges 32 = .ok (.iload_n 3, 1) := by decide +kernel
theorem dX3_pointsOnEdges_33 : decode cX3_pointsOnEdges 33 = .ok (.iaload, 1) := by decide +kernel
theorem dX3_pointsOnEdges_34 : decode cX3_pointsOnEdges 34 = .ok (.aload_n 0, 1) := by decide +kernel
theorem dX3_pointsOnEdges_35 : decode cX3_pointsOnEdges 35 = .ok (.getfield 12, 3) := by decide +kernel
theorem dX3_pointsOnEdges_38 : decode cX3_pointsOnEdges 38 = .ok (.getfield 77, 3) := by decide +kernel
theorem dX3_pointsOnEdges_41 : decode cX3_pointsOnEdges 41 = .ok (.iload_n 2, 1) := by decide +kernel
theorem dX3_pointsOnEdges_42 : decode cX3_pointsOnEdges 42 = .ok (.iaload, 1) := by decide +kernel
theorem dX3_pointsOnEdges_43 : decode cX3_pointsOnEdges 43 = .ok (.isub, 1) := by decide +kernel
theorem dX3_pointsOnEdges_44 : decode cX3_pointsOnEdges 44 = .ok (.i2l, 1) := by decide +kernel
theorem dX3_pointsOnEdges_45 : decode cX3_pointsOnEdges 45 = .ok (.aload_n 0, 1) := by decide +kernel
theorem dX3_pointsOnEdges_46 : decode cX3_pointsOnEdges 46 = .ok (.getfield 12, 3) := by decide +kernel
theorem dX3_pointsOnEdges_49 : decode cX3_pointsOnEdges 49 = .ok (.getfield 80, 3) := by decide +kernel
theorem dX3_pointsOnEdges_52 : decode cX3_pointsOnEdges 52 = .ok (.iload_n 3, 1) := by decide +kernel
theorem dX3_pointsOnEdges_53 : decode cX3_pointsOnEdges 53 = .ok (.iaload, 1) := by decide +kernel
theorem dX3_pointsOnEdges_54 : decode cX3_pointsOnEdges 54 = .ok (.aload_n 0, 1) := by decide +kernel
theorem dX3_pointsOnEdges_55 : decode cX3_pointsOnEdges 55 = .ok (.getfield 12, 3) := by decide +kernel
theorem dX3_pointsOnEdges_58 : decode cX3_pointsOnEdges 58 = .ok (.getfield 80, 3) := by decide +kernel
theorem dX3_pointsOnEdges_61 : decode cX3_pointsOnEdges 61 = .ok (.iload_n 2, 1) := by decide +kernel
theorem dX3_pointsOnEdges_62 : decode cX3_pointsOnEdges 62 = .ok (.iaload, 1) := by decide +kernel
theorem dX3_pointsOnEdges_63 : decode cX3_pointsOnEdges 63 = .ok (.isub, 1) := by decide +kernel
theorem dX3_pointsOnEdges_64 : decode cX3_pointsOnEdges 64 = .ok (.i2l, 1) := by decide +kernel
theorem dX3_pointsOnEdges_65 : decode cX3_pointsOnEdges 65 = .ok (.invokestatic 83, 3) := by decide +kernel
theorem dX3_pointsOnEdges_68 : decode cX3_pointsOnEdges 68 = .ok (.l2i, 1) := by decide +kernel
theorem dX3_pointsOnEdges_69 : decode cX3_pointsOnEdges 69 = .ok (.iadd, 1) := by decide +kernel
theorem dX3_pointsOnEdges_70 : decode cX3_pointsOnEdges 70 = .ok (.istore_n 1, 1) := by decide +kernel
theorem dX3_pointsOnEdges_71 : decode cX3_pointsOnEdges 71 = .ok (.iinc 2 1, 3) := by decide +kernel
theorem dX3_pointsOnEdges_74 : decode cX3_pointsOnEdges 74 = .ok (.goto (-70), 3) := by decide +kernel
theorem dX3_pointsOnEdges_77 : decode cX3_pointsOnEdges 77 = .ok (.iload_n 1, 1) := by decide +kernel
theorem dX3_pointsOnEdges_78 : decode cX3_pointsOnEdges 78 = .ok (.ireturn, 1) := by decide +kernel
set_option maxRecDepth 20000 in
theorem ggX3_placeOf_X1_after : GoodIn wsX3_placeOf wsX1_after := goodIn_r _ [9, 10, 23, 24, 25] (by decide +kernel) (by decide +kernel)
set_option maxRecDepth 20000 in
theorem gX3_placeOf_X1_after : GoodIn wsX3_placeOf (wsV RX3 74 RX1 yX1_after wsX1_after) := goodIn_app (goodIn_of _ (by decide +kernel)) ggX3_placeOf_X1_after
theorem dX3_placeOf_0 : decode cX3_placeOf 0 = .ok (.iconst 0, 1) := by decide +kernel
theorem dX3_placeOf_1 : decode cX3_placeOf 1 = .ok (.istore 4, 2) := by decide +kernel
theorem dX3_placeOf_3 : decode cX3_placeOf 3 = .ok (.iconst 0, 1) := by decide +kernel
theorem dX3_placeOf_4 : decode cX3_placeOf 4 = .ok (.istore 5, 2) := by decide +kernel
theorem dX3_placeOf_6 : decode cX3_placeOf 6 = .ok (.iload 5, 2) := by decide +kernel
theorem dX3_placeOf_8 : decode cX3_placeOf 8 = .ok (.aload_n 0, 1) := by decide +kernel
theorem dX3_placeOf_9 : decode cX3_placeOf 9 = .ok (.getfield 12, 3) := by decide +kernel
theorem dX3_placeOf_12 : decode cX3_placeOf 12 = .ok (.getfield 59, 3) := by decide +kernel
theorem dX3_placeOf_15 : decode cX3_placeOf 15 = .ok (.if_icmp .ge 192, 3) := by decide +kernel
theorem dX3_placeOf_18 : decode cX3_placeOf 18 = .ok (.aload_n 0, 1) := by decide +kernel
theorem dX3_placeOf_19 : decode cX3_placeOf 19 = .ok (.getfield 12, 3) := by decide +kernel
theorem dX3_placeOf_22 : decode cX3_placeOf 22 = .ok (.iload 5, 2) := by decide +kernel
theorem dX3_placeOf_24 : decode cX3_placeOf 24 = .ok (.invokevirtual 74, 3) := by decide +kernel
theorem dX3_placeOf_27 : decode cX3_placeOf 27 = .ok (.istore 6, 2) := by decide +kernel
theorem dX3_placeOf_29 : decode cX3_placeOf 29 = .ok (.aload_n 0, 1) := by decide +kernel
theorem dX3_placeOf_30 : decode cX3_placeOf 30 = .ok (.getfield 12, 3) := by decide +kernel
theorem dX3_placeOf_33 : decode cX3_placeOf 33 = .ok (.getfield 77, 3) := by decide +kernel
theorem dX3_placeOf_36 : decode cX3_placeOf 36 = .ok (.iload 5, 2) := by decide +kernel
theorem dX3_placeOf_38 : decode cX3_placeOf 38 = .ok (.iaload, 1) := by decide +kernel
theorem dX3_placeOf_39 : decode cX3_placeOf 39 = .ok (.iload_n 3, 1) := by decide +kernel
theorem dX3_placeOf_40 : decode cX3_placeOf 40 = .ok (.imul, 1) := by decide +kernel
theorem dX3_placeOf_41 : decode cX3_placeOf 41 = .ok (.iload_n 1, 1) := by decide +kernel
theorem dX3_placeOf_42 : decode cX3_placeOf 42 = .ok (.isub, 1) := by decide +kernel
theorem dX3_placeOf_43 : decode cX3_placeOf 43 = .ok (.istore 7, 2) := by decide +kernel
theorem dX3_placeOf_45 : decode cX3_placeOf 45 = .ok (.aload_n 0, 1) := by decide +kernel
theorem dX3_placeOf_46 : decode cX3_placeOf 46 = .ok (.getfield 12, 3) := by decide +kernel
theorem dX3_placeOf_49 : decode cX3_placeOf 49 = .ok (.getfield 80, 3) := by decide +kernel
theorem dX3_placeOf_52 : decode cX3_placeOf 52 = .ok (.iload 5, 2) := by decide +kernel
theorem dX3_placeOf_54 : decode cX3_placeOf 54 = .ok (.iaload, 1) := by decide +kernel
theorem dX3_placeOf_55 : decode cX3_placeOf 55 = .ok (.iload_n 3, 1) := by decide +kernel
theorem dX3_placeOf_56 : decode cX3_placeOf 56 = .ok (.imul, 1) := by decide +kernel
theorem dX3_placeOf_57 : decode cX3_placeOf 57 = .ok (.iload_n 2, 1) := by decide +kernel
theorem dX3_placeOf_58 : decode cX3_placeOf 58 = .ok (.isub, 1) := by decide +kernel
theorem dX3_placeOf_59 : decode cX3_placeOf 59 = .ok (.istore 8, 2) := by decide +kernel
theorem dX3_placeOf_61 : decode cX3_placeOf 61 = .ok (.aload_n 0, 1) := by decide +kernel
theorem dX3_placeOf_62 : decode cX3_placeOf 62 = .ok (.getfield 12, 3) := by decide +kernel
theorem dX3_placeOf_65 : decode cX3_placeOf 65 = .ok (.getfield 77, 3) := by decide +kernel
theorem dX3_placeOf_68 : decode cX3_placeOf 68 = .ok (.iload 6, 2) := by decide +kernel
theorem dX3_placeOf_70 : decode cX3_placeOf 70 = .ok (.iaload, 1) := by decide +kernel
theorem dX3_placeOf_71 : decode cX3_placeOf 71 = .ok (.iload_n 3, 1) := by decide +kernel
theorem dX3_placeOf_72 : decode cX3_placeOf 72 = .ok (.imul, 1) := by decide +kernel
theorem dX3_placeOf_73 : decode cX3_placeOf 73 = .ok (.iload_n 1, 1) := by decide +kernel
theorem dX3_placeOf_74 : decode cX3_placeOf 74 = .ok (.isub, 1) := by decide +kernel
theorem dX3_placeOf_75 : decode cX3_placeOf 75 = .ok (.istore 9, 2) := by decide +kernel
theorem dX3_placeOf_77 : decode cX3_placeOf 77 = .ok (.aload_n 0, 1) := by decide +kernel
theorem dX3_placeOf_78 : decode cX3_placeOf 78 = .ok (.getfield 12, 3) := by decide +kernel
theorem dX3_placeOf_81 : decode cX3_placeOf 81 = .ok (.getfield 80, 3) := by decide +kernel
theorem dX3_placeOf_84 : decode cX3_placeOf 84 = .ok (.iload 6, 2) := by decide +kernel
theorem dX3_placeOf_86 : decode cX3_placeOf 86 = .ok (.iaload, 1) := by decide +kernel
theorem dX3_placeOf_87 : decode cX3_placeOf 87 = .ok (.iload_n 3, 1) := by decide +kernel
theorem dX3_placeOf_88 : decode cX3_placeOf 88 = .ok (.imul, 1) := by decide +kernel
theorem dX3_placeOf_89 : decode cX3_placeOf 89 = .ok (.iload_n 2, 1) := by decide +kernel
theorem dX3_placeOf_90 : decode cX3_placeOf 90 = .ok (.isub, 1) := by decide +kernel
theorem dX3_placeOf_91 : decode cX3_placeOf 91 = .ok (.istore 10, 2) := by decide +kernel
theorem dX3_placeOf_93 : decode cX3_placeOf 93 = .ok (.iload 7, 2) := by decide +kernel
theorem dX3_placeOf_95 : decode cX3_placeOf 95 = .ok (.iload 10, 2) := by decide +kernel
theorem dX3_placeOf_97 : decode cX3_placeOf 97 = .ok (.imul, 1) := by decide +kernel
theorem dX3_placeOf_98 : decode cX3_placeOf 98 = .ok (.iload 8, 2) := by decide +kernel
theorem dX3_placeOf_100 : decode cX3_placeOf 100 = .ok (.iload 9, 2) := by decide +kernel
theorem dX3_placeOf_102 : decode cX3_placeOf 102 = .ok (.imul, 1) := by decide +kernel
theorem dX3_placeOf_103 : decode cX3_placeOf 103 = .ok (.isub, 1) := by decide +kernel
theorem dX3_placeOf_104 : decode cX3_placeOf 104 = .ok (.istore 11, 2) := by decide +kernel
theorem dX3_placeOf_106 : decode cX3_placeOf 106 = .ok (.iload 11, 2) := by decide +kernel
theorem dX3_placeOf_108 : decode cX3_placeOf 108 = .ok (.ifCond .ne 21, 3) := by decide +kernel
theorem dX3_placeOf_111 : decode cX3_placeOf 111 = .ok (.iload 7, 2) := by decide +kernel
theorem dX3_placeOf_113 : decode cX3_placeOf 113 = .ok (.iload 9, 2) := by decide +kernel
theorem dX3_placeOf_115 : decode cX3_placeOf 115 = .ok (.imul, 1) := by decide +kernel
theorem dX3_placeOf_116 : decode cX3_placeOf 116 = .ok (.ifCond .gt 13, 3) := by decide +kernel
theorem dX3_placeOf_119 : decode cX3_placeOf 119 = .ok (.iload 8, 2) := by decide +kernel
theorem dX3_placeOf_121 : decode cX3_placeOf 121 = .ok (.iload 10, 2) := by decide +kernel
theorem dX3_placeOf_123 : decode cX3_placeOf 123 = .ok (.imul, 1) := by decide +kernel
theorem dX3_placeOf_124 : decode cX3_placeOf 124 = .ok (.ifCond .gt 5, 3) := by decide +kernel
theorem dX3_placeOf_127 : decode cX3_placeOf 127 = .ok (.iconst 1, 1) := by decide +kernel
theorem dX3_placeOf_128 : decode cX3_placeOf 128 = .ok (.ireturn, 1) := by decide +kernel
theorem dX3_placeOf_129 : decode cX3_placeOf 129 = .ok (.iload 8, 2) := by decide +kernel
theorem dX3_placeOf_131 : decode cX3_placeOf 131 = .ok (.ifCond .le 7, 3) := by decide +kernel
theorem dX3_placeOf_134 : decode cX3_placeOf 134 = .ok (.iconst 1, 1) := by decide +kernel
theorem dX3_placeOf_135 : decode cX3_placeOf 135 = .ok (.goto 4, 3) := by decide +kernel
theorem dX3_placeOf_138 : decode cX3_placeOf 138 = .ok (.iconst 0, 1) := by decide +kernel
theorem dX3_placeOf_139 : decode cX3_placeOf 139 = .ok (.iload 10, 2) := by decide +kernel
theorem dX3_placeOf_141 : decode cX3_placeOf 141 = .ok (.ifCond .le 7, 3) := by decide +kernel
theorem dX3_placeOf_144 : decode cX3_placeOf 144 = .ok (.iconst 1, 1) := by decide +kernel
theorem dX3_placeOf_145 : decode cX3_placeOf 145 = .ok (.goto 4, 3) := by decide +kernel
theorem dX3_placeOf_148 : decode cX3_placeOf 148 = .ok (.iconst 0, 1) := by decide +kernel
theorem dX3_placeOf_149 : decode cX3_placeOf 149 = .ok (.if_icmp .eq 7, 3) := by decide +kernel
theorem dX3_placeOf_152 : decode cX3_placeOf 152 = .ok (.iconst 1, 1) := by decide +kernel
theorem dX3_placeOf_153 : decode cX3_placeOf 153 = .ok (.goto 4, 3) := by decide +kernel
theorem dX3_placeOf_156 : decode cX3_placeOf 156 = .ok (.iconst 0, 1) := by decide +kernel
theorem dX3_placeOf_157 : decode cX3_placeOf 157 = .ok (.istore 12, 2) := by decide +kernel
theorem dX3_placeOf_159 : decode cX3_placeOf 159 = .ok (.iload 12, 2) := by decide +kernel
theorem dX3_placeOf_161 : decode cX3_placeOf 161 = .ok (.ifCond .eq 40, 3) := by decide +kernel
theorem dX3_placeOf_164 : decode cX3_placeOf 164 = .ok (.iload 11, 2) := by decide +kernel
theorem dX3_placeOf_166 : decode cX3_placeOf 166 = .ok (.ifCond .le 7, 3) := by decide +kernel
theorem dX3_placeOf_169 : decode cX3_placeOf 169 = .ok (.iconst 1, 1) := by decide +kernel
theorem dX3_placeOf_170 : decode cX3_placeOf 170 = .ok (.goto 4, 3) := by decide +kernel
theorem dX3_placeOf_173 : decode cX3_placeOf 173 = .ok (.iconst 0, 1) := by decide +kernel
theorem dX3_placeOf_174 : decode cX3_placeOf 174 = .ok (.iload 10, 2) := by decide +kernel
theorem dX3_placeOf_176 : decode cX3_placeOf 176 = .ok (.iload 8, 2) := by decide +kernel
theorem dX3_placeOf_178 : decode cX3_placeOf 178 = .ok (.if_icmp .le 7, 3) := by decide +kernel
theorem dX3_placeOf_181 : decode cX3_placeOf 181 = .ok (.iconst 1, 1) := by decide +kernel
theorem dX3_placeOf_182 : decode cX3_placeOf 182 = .ok (.goto 4, 3) := by decide +kernel
theorem dX3_placeOf_185 : decode cX3_placeOf 185 = .ok (.iconst 0, 1) := by decide +kernel
theorem dX3_placeOf_186 : decode cX3_placeOf 186 = .ok (.if_icmp .ne 15, 3) := by decide +kernel
theorem dX3_placeOf_189 : decode cX3_placeOf 189 = .ok (.iload 4, 2) := by decide +kernel
theorem dX3_placeOf_191 : decode cX3_placeOf 191 = .ok (.ifCond .ne 7, 3) := by decide +kernel
theorem dX3_placeOf_194 : decode cX3_placeOf 194 = .ok (.iconst 1, 1) := by decide +kernel
theorem dX3_placeOf_195 : decode cX3_placeOf 195 = .ok (.goto 4, 3) := by decide +kernel
theorem dX3_placeOf_198 : decode cX3_placeOf 198 = .ok (.iconst 0, 1) := by decide +kernel
theorem dX3_placeOf_199 : decode cX3_placeOf 199 = .ok (.istore 4, 2) := by decide +kernel
theorem dX3_placeOf_201 : decode cX3_placeOf 201 = .ok (.iinc 5 1, 3) := by decide +kernel
theorem dX3_placeOf_204 : decode cX3_placeOf 204 = .ok (.goto (-198), 3) := by decide +kernel
theorem dX3_placeOf_207 : decode cX3_placeOf 207 = .ok (.iload 4, 2) := by decide +kernel
theorem dX3_placeOf_209 : decode cX3_placeOf 209 = .ok (.ifCond .eq 7, 3) := by decide +kernel
theorem dX3_placeOf_212 : decode cX3_placeOf 212 = .ok (.iconst 2, 1) := by decide +kernel
theorem dX3_placeOf_213 : decode cX3_placeOf 213 = .ok (.goto 4, 3) := by decide +kernel
theorem dX3_placeOf_216 : decode cX3_placeOf 216 = .ok (.iconst 0, 1) := by decide +kernel
theorem dX3_placeOf_217 : decode cX3_placeOf 217 = .ok (.ireturn, 1) := by decide +kernel
set_option maxRecDepth 20000 in
theorem ggX3_leastStart_X3_fits : GoodIn wsX3_leastStart wsX3_fits := goodIn_r _ [7, 1, 2, 8, 9, 10, 6, 11, 12, 13, 14, 15, 16, 17, 18, 19, 20, 21, 22, 23, 24, 25, 26, 27, 28, 29, 30, 31, 32, 33, 34, 35, 36, 37, 38, 39, 40, 41, 42, 43, 44, 45, 46, 47, 48, 49, 50, 51, 52, 53, 54, 55] (by decide +kernel) (by decide +kernel)
set_option maxRecDepth 20000 in
theorem gX3_leastStart_X3_fits : GoodIn wsX3_leastStart (wsV RX3 87 RX3 yX3_fits wsX3_fits) := goodIn_app (goodIn_of _ (by decide +kernel)) ggX3_leastStart_X3_fits
theorem dX3_leastStart_0 : decode cX3_leastStart 0 = .ok (.iconst 0, 1) := by decide +kernel
theorem dX3_leastStart_1 : decode cX3_leastStart 1 = .ok (.istore_n 3, 1) := by decide +kernel
theorem dX3_leastStart_2 : decode cX3_leastStart 2 = .ok (.iload_n 3, 1) := by decide +kernel
theorem dX3_leastStart_3 : decode cX3_leastStart 3 = .ok (.aload_n 1, 1) := by decide +kernel
theorem dX3_leastStart_4 : decode cX3_leastStart 4 = .ok (.getfield 12, 3) := by decide +kernel
theorem dX3_leastStart_7 : decode cX3_leastStart 7 = .ok (.getfield 59, 3) := by decide +kernel
theorem dX3_leastStart_10 : decode cX3_leastStart 10 = .ok (.if_icmp .ge 21, 3) := by decide +kernel
theorem dX3_leastStart_13 : decode cX3_leastStart 13 = .ok (.aload_n 0, 1) := by decide +kernel
theorem dX3_leastStart_14 : decode cX3_leastStart 14 = .ok (.aload_n 1, 1) := by decide +kernel
theorem dX3_leastStart_15 : decode cX3_leastStart 15 = .ok (.iload_n 3, 1) := by decide +kernel
theorem dX3_leastStart_16 : decode cX3_leastStart 16 = .ok (.iload_n 2, 1) := by decide +kernel
theorem dX3_leastStart_17 : decode cX3_leastStart 17 = .ok (.invokevirtual 87, 3) := by decide +kernel
theorem dX3_leastStart_20 : decode cX3_leastStart 20 = .ok (.ifCond .eq 5, 3) := by decide +kernel
theorem dX3_leastStart_23 : decode cX3_leastStart 23 = .ok (.iload_n 3, 1) := by decide +kernel
theorem dX3_leastStart_24 : decode cX3_leastStart 24 = .ok (.ireturn, 1) := by decide +kernel
theorem dX3_leastStart_25 : decode cX3_leastStart 25 = .ok (.iinc 3 1, 3) := by decide +kernel
theorem dX3_leastStart_28 : decode cX3_leastStart 28 = .ok (.goto (-26), 3) := by decide +kernel
theorem dX3_leastStart_31 : decode cX3_leastStart 31 = .ok (.iconst (-1), 1) := by decide +kernel
theorem dX3_leastStart_32 : decode cX3_leastStart 32 = .ok (.ireturn, 1) := by decide +kernel
set_option maxRecDepth 20000 in
theorem ggX3_startCount_X3_fits : GoodIn wsX3_startCount wsX3_fits := goodIn_r _ [7, 1, 2, 8, 9, 10, 6, 11, 12, 13, 14, 15, 16, 17, 18, 19, 20, 21, 22, 23, 24, 25, 26, 27, 28, 29, 30, 31, 32, 33, 34, 35, 36, 37, 38, 39, 40, 41, 42, 43, 44, 45, 46, 47, 48, 49, 50, 51, 52, 53, 54, 55] (by decide +kernel) (by decide +kernel)
set_option maxRecDepth 20000 in
theorem gX3_startCount_X3_fits : GoodIn wsX3_startCount (wsV RX3 87 RX3 yX3_fits wsX3_fits) := goodIn_app (goodIn_of _ (by decide +kernel)) ggX3_startCount_X3_fits
theorem dX3_startCount_0 : decode cX3_startCount 0 = .ok (.iconst 0, 1) := by decide +kernel
theorem dX3_startCount_1 : decode cX3_startCount 1 = .ok (.istore_n 2, 1) := by decide +kernel
theorem dX3_startCount_2 : decode cX3_startCount 2 = .ok (.iconst 0, 1) := by decide +kernel
theorem dX3_startCount_3 : decode cX3_startCount 3 = .ok (.istore_n 3, 1) := by decide +kernel
theorem dX3_startCount_4 : decode cX3_startCount 4 = .ok (.iload_n 3, 1) := by decide +kernel
theorem dX3_startCount_5 : decode cX3_startCount 5 = .ok (.aload_n 0, 1) := by decide +kernel
theorem dX3_startCount_6 : decode cX3_startCount 6 = .ok (.getfield 12, 3) := by decide +kernel
theorem dX3_startCount_9 : decode cX3_startCount 9 = .ok (.getfield 59, 3) := by decide +kernel
theorem dX3_startCount_12 : decode cX3_startCount 12 = .ok (.if_icmp .ge 22, 3) := by decide +kernel
theorem dX3_startCount_15 : decode cX3_startCount 15 = .ok (.aload_n 0, 1) := by decide +kernel
theorem dX3_startCount_16 : decode cX3_startCount 16 = .ok (.aload_n 0, 1) := by decide +kernel
theorem dX3_startCount_17 : decode cX3_startCount 17 = .ok (.iload_n 3, 1) := by decide +kernel
theorem dX3_startCount_18 : decode cX3_startCount 18 = .ok (.iload_n 1, 1) := by decide +kernel
theorem dX3_startCount_19 : decode cX3_startCount 19 = .ok (.invokevirtual 87, 3) := by decide +kernel
theorem dX3_startCount_22 : decode cX3_startCount 22 = .ok (.ifCond .eq 6, 3) := by decide +kernel
theorem dX3_startCount_25 : decode cX3_startCount 25 = .ok (.iinc 2 1, 3) := by decide +kernel
theorem dX3_startCount_28 : decode cX3_startCount 28 = .ok (.iinc 3 1, 3) := by decide +kernel
theorem dX3_startCount_31 : decode cX3_startCount 31 = .ok (.goto (-27), 3) := by decide +kernel
theorem dX3_startCount_34 : decode cX3_startCount 34 = .ok (.iload_n 2, 1) := by decide +kernel
theorem dX3_startCount_35 : decode cX3_startCount 35 = .ok (.ireturn, 1) := by decide +kernel
set_option maxRecDepth 20000 in
theorem ggX3_crossOfEdge_X1_after : GoodIn wsX3_crossOfEdge wsX1_after := goodIn_r _ [8, 9, 22, 23, 24] (by decide +kernel) (by decide +kernel)
set_option maxRecDepth 20000 in
theorem gX3_crossOfEdge_X1_after : GoodIn wsX3_crossOfEdge (wsV RX3 74 RX1 yX1_after wsX1_after) := goodIn_app (goodIn_of _ (by decide +kernel)) ggX3_crossOfEdge_X1_after
theorem dX3_crossOfEdge_0 : decode cX3_crossOfEdge 0 = .ok (.aload_n 0, 1) := by decide +kernel
theorem dX3_crossOfEdge_1 : decode cX3_crossOfEdge 1 = .ok (.getfield 12, 3) := by decide +kernel
theorem dX3_crossOfEdge_4 : decode cX3_crossOfEdge 4 = .ok (.iload_n 1, 1) := by decide +kernel
theorem dX3_crossOfEdge_5 : decode cX3_crossOfEdge 5 = .ok (.invokevirtual 74, 3) := by decide +kernel
theorem dX3_crossOfEdge_8 : decode cX3_crossOfEdge 8 = .ok (.istore_n 2, 1) := by decide +kernel
theorem dX3_crossOfEdge_9 : decode cX3_crossOfEdge 9 = .ok (.aload_n 0, 1) := by decide +kernel
theorem dX3_crossOfEdge_10 : decode cX3_crossOfEdge 10 = .ok (.getfield 12, 3) := by decide +kernel
theorem dX3_crossOfEdge_13 : decode cX3_crossOfEdge 13 = .ok (.getfield 77, 3) := by decide +kernel
theorem dX3_crossOfEdge_16 : decode cX3_crossOfEdge 16 = .ok (.iload_n 1, 1) := by decide +kernel
theorem dX3_crossOfEdge_17 : decode cX3_crossOfEdge 17 = .ok (.iaload, 1) := by decide +kernel
theorem dX3_crossOfEdge_18 : decode cX3_crossOfEdge 18 = .ok (.aload_n 0, 1) := by decide +kernel
theorem dX3_crossOfEdge_19 : decode cX3_crossOfEdge 19 = .ok (.getfield 12, 3) := by decide +kernel
theorem dX3_crossOfEdge_22 : decode cX3_crossOfEdge 22 = .ok (.getfield 80, 3) := by decide +kernel
theorem dX3_crossOfEdge_25 : decode cX3_crossOfEdge 25 = .ok (.iload_n 2, 1) := by decide +kernel
theorem dX3_crossOfEdge_26 : decode cX3_crossOfEdge 26 = .ok (.iaload, 1) := by decide +kernel
theorem dX3_crossOfEdge_27 : decode cX3_crossOfEdge 27 = .ok (.imul, 1) := by decide +kernel
theorem dX3_crossOfEdge_28 : decode cX3_crossOfEdge 28 = .ok (.aload_n 0, 1) := by decide +kernel
theorem dX3_crossOfEdge_29 : decode cX3_crossOfEdge 29 = .ok (.getfield 12, 3) := by decide +kernel
theorem dX3_crossOfEdge_32 : decode cX3_crossOfEdge 32 = .ok (.getfield 80, 3) := by decide +kernel
theorem dX3_crossOfEdge_35 : decode cX3_crossOfEdge 35 = .ok (.iload_n 1, 1) := by decide +kernel
theorem dX3_crossOfEdge_36 : decode cX3_crossOfEdge 36 = .ok (.iaload, 1) := by decide +kernel
theorem dX3_crossOfEdge_37 : decode cX3_crossOfEdge 37 = .ok (.aload_n 0, 1) := by decide +kernel
theorem dX3_crossOfEdge_38 : decode cX3_crossOfEdge 38 = .ok (.getfield 12, 3) := by decide +kernel
theorem dX3_crossOfEdge_41 : decode cX3_crossOfEdge 41 = .ok (.getfield 77, 3) := by decide +kernel
theorem dX3_crossOfEdge_44 : decode cX3_crossOfEdge 44 = .ok (.iload_n 2, 1) := by decide +kernel
theorem dX3_crossOfEdge_45 : decode cX3_crossOfEdge 45 = .ok (.iaload, 1) := by decide +kernel
theorem dX3_crossOfEdge_46 : decode cX3_crossOfEdge 46 = .ok (.imul, 1) := by decide +kernel
theorem dX3_crossOfEdge_47 : decode cX3_crossOfEdge 47 = .ok (.isub, 1) := by decide +kernel
theorem dX3_crossOfEdge_48 : decode cX3_crossOfEdge 48 = .ok (.ireturn, 1) := by decide +kernel
set_option maxRecDepth 20000 in
theorem ggX3_look_X1_after : GoodIn wsX3_look wsX1_after := goodIn_r _ [8, 9, 56, 57, 58] (by decide +kernel) (by decide +kernel)
set_option maxRecDepth 20000 in
theorem gX3_look_X1_after : GoodIn wsX3_look (wsV RX3 74 RX1 yX1_after wsX1_after) := goodIn_app (goodIn_of _ (by decide +kernel)) ggX3_look_X1_after
set_option maxRecDepth 20000 in
theorem ggX3_look_X3_isFree : GoodIn wsX3_look wsX3_isFree := goodIn_r _ [14, 1, 15, 4, 5, 6, 7, 8, 9, 16, 17, 18, 19, 20, 21, 22, 23, 24, 25, 26, 27, 28, 29, 30, 31, 32, 33, 34, 35, 36, 37, 38, 39, 44, 45, 46, 47, 48, 49, 50, 51, 52, 53, 54, 55, 56, 57, 58] (by decide +kernel) (by decide +kernel)
set_option maxRecDepth 20000 in
theorem gX3_look_X3_isFree : GoodIn wsX3_look (wsV RX3 91 RX3 yX3_isFree wsX3_isFree) := goodIn_app (goodIn_of _ (by decide +kernel)) ggX3_look_X3_isFree
set_option maxRecDepth 20000 in
theorem ggX3_look_X3_placeOf : GoodIn wsX3_look wsX3_placeOf := goodIn_r _ [43, 1, 15, 2, 3, 4, 5, 6, 7, 8, 9, 44, 45, 46, 47, 48, 49, 50, 51, 52, 53, 54, 55, 56, 57, 58] (by decide +kernel) (by decide +kernel)
set_option maxRecDepth 20000 in
theorem gX3_look_X3_placeOf : GoodIn wsX3_look (wsV RX3 95 RX3 yX3_placeOf wsX3_placeOf) := goodIn_app (goodIn_of _ (by decide +kernel)) ggX3_look_X3_placeOf
theorem dX3_look_0 : decode cX3_look 0 = .ok (.aload_n 0, 1) := by decide +kernel
theorem dX3_look_1 : decode cX3_look 1 = .ok (.getfield 12, 3) := by decide +kernel
theorem dX3_look_4 : decode cX3_look 4 = .ok (.iload_n 1, 1) := by decide +kernel
theorem dX3_look_5 : decode cX3_look 5 = .ok (.invokevirtual 74, 3) := by decide +kernel
theorem dX3_look_8 : decode cX3_look 8 = .ok (.iload_n 2, 1) := by decide +kernel
theorem dX3_look_9 : decode cX3_look 9 = .ok (.if_icmp .eq 15, 3) := by decide +kernel
theorem dX3_look_12 : decode cX3_look 12 = .ok (.aload_n 0, 1) := by decide +kernel
theorem dX3_look_13 : decode cX3_look 13 = .ok (.getfield 12, 3) := by decide +kernel
theorem dX3_look_16 : decode cX3_look 16 = .ok (.iload_n 2, 1) := by decide +kernel
theorem dX3_look_17 : decode cX3_look 17 = .ok (.invokevirtual 74, 3) := by decide +kernel
theorem dX3_look_20 : decode cX3_look 20 = .ok (.iload_n 1, 1) := by decide +kernel
theorem dX3_look_21 : decode cX3_look 21 = .ok (.if_icmp .ne 5, 3) := by decide +kernel
theorem dX3_look_24 : decode cX3_look 24 = .ok (.iconst 2, 1) := by decide +kernel
theorem dX3_look_25 : decode cX3_look 25 = .ok (.ireturn, 1) := by decide +kernel
theorem dX3_look_26 : decode cX3_look 26 = .ok (.aload_n 0, 1) := by decide +kernel
theorem dX3_look_27 : decode cX3_look 27 = .ok (.getfield 12, 3) := by decide +kernel
theorem dX3_look_30 : decode cX3_look 30 = .ok (.getfield 77, 3) := by decide +kernel
theorem dX3_look_33 : decode cX3_look 33 = .ok (.iload_n 1, 1) := by decide +kernel
theorem dX3_look_34 : decode cX3_look 34 = .ok (.iaload, 1) := by decide +kernel
theorem dX3_look_35 : decode cX3_look 35 = .ok (.aload_n 0, 1) := by decide +kernel
theorem dX3_look_36 : decode cX3_look 36 = .ok (.getfield 12, 3) := by decide +kernel
theorem dX3_look_39 : decode cX3_look 39 = .ok (.getfield 77, 3) := by decide +kernel
theorem dX3_look_42 : decode cX3_look 42 = .ok (.iload_n 2, 1) := by decide +kernel
theorem dX3_look_43 : decode cX3_look 43 = .ok (.iaload, 1) := by decide +kernel
theorem dX3_look_44 : decode cX3_look 44 = .ok (.iadd, 1) := by decide +kernel
theorem dX3_look_45 : decode cX3_look 45 = .ok (.istore_n 3, 1) := by decide +kernel
theorem dX3_look_46 : decode cX3_look 46 = .ok (.aload_n 0, 1) := by decide +kernel
theorem dX3_look_47 : decode cX3_look 47 = .ok (.getfield 12, 3) := by decide +kernel
theorem dX3_look_50 : decode cX3_look 50 = .ok (.getfield 80, 3) := by decide +kernel
theorem dX3_look_53 : decode cX3_look 53 = .ok (.iload_n 1, 1) := by decide +kernel
theorem dX3_look_54 : decode cX3_look 54 = .ok (.iaload, 1) := by decide +kernel
theorem dX3_look_55 : decode cX3_look 55 = .ok (.aload_n 0, 1) := by decide +kernel
theorem dX3_look_56 : decode cX3_look 56 = .ok (.getfield 12, 3) := by decide +kernel
theorem dX3_look_59 : decode cX3_look 59 = .ok (.getfield 80, 3) := by decide +kernel
theorem dX3_look_62 : decode cX3_look 62 = .ok (.iload_n 2, 1) := by decide +kernel
theorem dX3_look_63 : decode cX3_look 63 = .ok (.iaload, 1) := by decide +kernel
theorem dX3_look_64 : decode cX3_look 64 = .ok (.iadd, 1) := by decide +kernel
theorem dX3_look_65 : decode cX3_look 65 = .ok (.istore 4, 2) := by decide +kernel
theorem dX3_look_67 : decode cX3_look 67 = .ok (.aload_n 0, 1) := by decide +kernel
theorem dX3_look_68 : decode cX3_look 68 = .ok (.iload_n 1, 1) := by decide +kernel
theorem dX3_look_69 : decode cX3_look 69 = .ok (.iload_n 2, 1) := by decide +kernel
theorem dX3_look_70 : decode cX3_look 70 = .ok (.invokevirtual 91, 3) := by decide +kernel
theorem dX3_look_73 : decode cX3_look 73 = .ok (.ifCond .eq 19, 3) := by decide +kernel
theorem dX3_look_76 : decode cX3_look 76 = .ok (.aload_n 0, 1) := by decide +kernel
theorem dX3_look_77 : decode cX3_look 77 = .ok (.iload_n 3, 1) := by decide +kernel
theorem dX3_look_78 : decode cX3_look 78 = .ok (.iload 4, 2) := by decide +kernel
theorem dX3_look_80 : decode cX3_look 80 = .ok (.iconst 2, 1) := by decide +kernel
theorem dX3_look_81 : decode cX3_look 81 = .ok (.invokevirtual 95, 3) := by decide +kernel
theorem dX3_look_84 : decode cX3_look 84 = .ok (.iconst 2, 1) := by decide +kernel
theorem dX3_look_85 : decode cX3_look 85 = .ok (.if_icmp .ne 7, 3) := by decide +kernel
theorem dX3_look_88 : decode cX3_look 88 = .ok (.iconst 1, 1) := by decide +kernel
theorem dX3_look_89 : decode cX3_look 89 = .ok (.goto 4, 3) := by decide +kernel
theorem dX3_look_92 : decode cX3_look 92 = .ok (.iconst 0, 1) := by decide +kernel
theorem dX3_look_93 : decode cX3_look 93 = .ok (.ireturn, 1) := by decide +kernel
set_option maxRecDepth 20000 in
theorem ggX3_isFree_X1_after : GoodIn wsX3_isFree wsX1_after := goodIn_r _ [7, 8, 45, 46, 47] (by decide +kernel) (by decide +kernel)
set_option maxRecDepth 20000 in
theorem gX3_isFree_X1_after : GoodIn wsX3_isFree (wsV RX3 74 RX1 yX1_after wsX1_after) := goodIn_app (goodIn_of _ (by decide +kernel)) ggX3_isFree_X1_after
set_option maxRecDepth 20000 in
theorem ggX3_isFree_X1_meet : GoodIn wsX3_isFree wsX1_meet := goodIn_r _ [12, 13, 14, 15, 16, 6, 17, 18, 19, 20, 21, 22, 23, 24, 25, 26, 27, 28, 29, 30, 31, 32, 45, 46, 47] (by decide +kernel) (by decide +kernel)
set_option maxRecDepth 20000 in
theorem gX3_isFree_X1_meet : GoodIn wsX3_isFree (wsV RX3 99 RX1 yX1_meet wsX1_meet) := goodIn_app (goodIn_of _ (by decide +kernel)) ggX3_isFree_X1_meet
theorem dX3_isFree_0 : decode cX3_isFree 0 = .ok (.iconst 0, 1) := by decide +kernel
theorem dX3_isFree_1 : decode cX3_isFree 1 = .ok (.istore_n 3, 1) := by decide +kernel
theorem dX3_isFree_2 : decode cX3_isFree 2 = .ok (.iload_n 3, 1) := by decide +kernel
theorem dX3_isFree_3 : decode cX3_isFree 3 = .ok (.aload_n 0, 1) := by decide +kernel
theorem dX3_isFree_4 : decode cX3_isFree 4 = .ok (.getfield 12, 3) := by decide +kernel
theorem dX3_isFree_7 : decode cX3_isFree 7 = .ok (.getfield 59, 3) := by decide +kernel
theorem dX3_isFree_10 : decode cX3_isFree 10 = .ok (.if_icmp .ge 70, 3) := by decide +kernel
theorem dX3_isFree_13 : decode cX3_isFree 13 = .ok (.aload_n 0, 1) := by decide +kernel
theorem dX3_isFree_14 : decode cX3_isFree 14 = .ok (.getfield 12, 3) := by decide +kernel
theorem dX3_isFree_17 : decode cX3_isFree 17 = .ok (.iload_n 3, 1) := by decide +kernel
theorem dX3_isFree_18 : decode cX3_isFree 18 = .ok (.invokevirtual 74, 3) := by decide +kernel
theorem dX3_isFree_21 : decode cX3_isFree 21 = .ok (.istore 4, 2) := by decide +kernel
theorem dX3_isFree_23 : decode cX3_isFree 23 = .ok (.iload_n 3, 1) := by decide +kernel
theorem dX3_isFree_24 : decode cX3_isFree 24 = .ok (.iload_n 1, 1) := by decide +kernel
theorem dX3_isFree_25 : decode cX3_isFree 25 = .ok (.if_icmp .eq 20, 3) := by decide +kernel
theorem dX3_isFree_28 : decode cX3_isFree 28 = .ok (.iload_n 3, 1) := by decide +kernel
theorem dX3_isFree_29 : decode cX3_isFree 29 = .ok (.iload_n 2, 1) := by decide +kernel
theorem dX3_isFree_30 : decode cX3_isFree 30 = .ok (.if_icmp .eq 15, 3) := by decide +kernel
theorem dX3_isFree_33 : decode cX3_isFree 33 = .ok (.iload 4, 2) := by decide +kernel
theorem dX3_isFree_35 : decode cX3_isFree 35 = .ok (.iload_n 1, 1) := by decide +kernel
theorem dX3_isFree_36 : decode cX3_isFree 36 = .ok (.if_icmp .eq 9, 3) := by decide +kernel
theorem dX3_isFree_39 : decode cX3_isFree 39 = .ok (.iload 4, 2) := by decide +kernel
theorem dX3_isFree_41 : decode cX3_isFree 41 = .ok (.iload_n 2, 1) := by decide +kernel
theorem dX3_isFree_42 : decode cX3_isFree 42 = .ok (.if_icmp .ne 7, 3) := by decide +kernel
theorem dX3_isFree_45 : decode cX3_isFree 45 = .ok (.iconst 1, 1) := by decide +kernel
theorem dX3_isFree_46 : decode cX3_isFree 46 = .ok (.goto 4, 3) := by decide +kernel
theorem dX3_isFree_49 : decode cX3_isFree 49 = .ok (.iconst 0, 1) := by decide +kernel
theorem dX3_isFree_50 : decode cX3_isFree 50 = .ok (.istore 5, 2) := by decide +kernel
theorem dX3_isFree_52 : decode cX3_isFree 52 = .ok (.iload 5, 2) := by decide +kernel
theorem dX3_isFree_54 : decode cX3_isFree 54 = .ok (.ifCond .ne 20, 3) := by decide +kernel
theorem dX3_isFree_57 : decode cX3_isFree 57 = .ok (.aload_n 0, 1) := by decide +kernel
theorem dX3_isFree_58 : decode cX3_isFree 58 = .ok (.getfield 12, 3) := by decide +kernel
theorem dX3_isFree_61 : decode cX3_isFree 61 = .ok (.iload_n 1, 1) := by decide +kernel
theorem dX3_isFree_62 : decode cX3_isFree 62 = .ok (.iload_n 2, 1) := by decide +kernel
theorem dX3_isFree_63 : decode cX3_isFree 63 = .ok (.iload_n 3, 1) := by decide +kernel
theorem dX3_isFree_64 : decode cX3_isFree 64 = .ok (.iload 4, 2) := by decide +kernel
theorem dX3_isFree_66 : decode cX3_isFree 66 = .ok (.invokevirtual 99, 3) := by decide +kernel
theorem dX3_isFree_69 : decode cX3_isFree 69 = .ok (.ifCond .eq 5, 3) := by decide +kernel
theorem dX3_isFree_72 : decode cX3_isFree 72 = .ok (.iconst 0, 1) := by decide +kernel
theorem dX3_isFree_73 : decode cX3_isFree 73 = .ok (.ireturn, 1) := by decide +kernel
theorem dX3_isFree_74 : decode cX3_isFree 74 = .ok (.iinc 3 1, 3) := by decide +kernel
theorem dX3_isFree_77 : decode cX3_isFree 77 = .ok (.goto (-75), 3) := by decide +kernel
theorem dX3_isFree_80 : decode cX3_isFree 80 = .ok (.iconst 1, 1) := by decide +kernel
theorem dX3_isFree_81 : decode cX3_isFree 81 = .ok (.ireturn, 1) := by decide +kernel
set_option maxRecDepth 20000 in
theorem ggX3_fits_X3_hand : GoodIn wsX3_fits wsX3_hand := goodIn_r _ [7, 8, 37, 38, 39, 40, 41, 42, 43, 44, 45, 46, 47, 48] (by decide +kernel) (by decide +kernel)
set_option maxRecDepth 20000 in
theorem gX3_fits_X3_hand : GoodIn wsX3_fits (wsV RX3 103 RX3 yX3_hand wsX3_hand) := goodIn_app (goodIn_of _ (by decide +kernel)) ggX3_fits_X3_hand
set_option maxRecDepth 20000 in
theorem ggX3_fits_X1_after : GoodIn wsX3_fits wsX1_after := goodIn_r _ [13, 14, 49, 50, 51] (by decide +kernel) (by decide +kernel)
set_option maxRecDepth 20000 in
theorem gX3_fits_X1_after : GoodIn wsX3_fits (wsV RX3 74 RX1 yX1_after wsX1_after) := goodIn_app (goodIn_of _ (by decide +kernel)) ggX3_fits_X1_after
set_option maxRecDepth 20000 in
theorem ggX3_fits_X1_before : GoodIn wsX3_fits wsX1_before := goodIn_r _ [18, 14, 49, 50, 51] (by decide +kernel) (by decide +kernel)
set_option maxRecDepth 20000 in
theorem gX3_fits_X1_before : GoodIn wsX3_fits (wsV RX3 107 RX1 yX1_before wsX1_before) := goodIn_app (goodIn_of _ (by decide +kernel)) ggX3_fits_X1_before
set_option maxRecDepth 20000 in
theorem ggX3_fits_X3_fitsCorner : GoodIn wsX3_fits wsX3_fitsCorner := goodIn_r _ [22, 1, 15, 16, 17, 12, 18, 14, 9, 10, 11, 13, 23, 24, 25, 26, 27, 28, 29, 30, 31, 32, 33, 34, 35, 36, 37, 38, 39, 40, 41, 42, 43, 44, 45, 46, 47, 48, 49, 50, 51] (by decide +kernel) (by decide +kernel)
set_option maxRecDepth 20000 in
theorem gX3_fits_X3_fitsCorner : GoodIn wsX3_fits (wsV RX3 110 RX3 yX3_fitsCorner wsX3_fitsCorner) := goodIn_app (goodIn_of _ (by decide +kernel)) ggX3_fits_X3_fitsCorner
theorem dX3_fits_0 : decode cX3_fits 0 = .ok (.aload_n 1, 1) := by decide +kernel
theorem dX3_fits_1 : decode cX3_fits 1 = .ok (.getfield 12, 3) := by decide +kernel
theorem dX3_fits_4 : decode cX3_fits 4 = .ok (.astore 4, 2) := by decide +kernel
theorem dX3_fits_6 : decode cX3_fits 6 = .ok (.aload_n 0, 1) := by decide +kernel
theorem dX3_fits_7 : decode cX3_fits 7 = .ok (.getfield 12, 3) := by decide +kernel
theorem dX3_fits_10 : decode cX3_fits 10 = .ok (.getfield 59, 3) := by decide +kernel
theorem dX3_fits_13 : decode cX3_fits 13 = .ok (.aload 4, 2) := by decide +kernel
theorem dX3_fits_15 : decode cX3_fits 15 = .ok (.getfield 59, 3) := by decide +kernel
theorem dX3_fits_18 : decode cX3_fits 18 = .ok (.if_icmp .eq 5, 3) := by decide +kernel
theorem dX3_fits_21 : decode cX3_fits 21 = .ok (.iconst 0, 1) := by decide +kernel
theorem dX3_fits_22 : decode cX3_fits 22 = .ok (.ireturn, 1) := by decide +kernel
theorem dX3_fits_23 : decode cX3_fits 23 = .ok (.aload_n 0, 1) := by decide +kernel
theorem dX3_fits_24 : decode cX3_fits 24 = .ok (.invokevirtual 103, 3) := by decide +kernel
theorem dX3_fits_27 : decode cX3_fits 27 = .ok (.iload_n 3, 1) := by decide +kernel
theorem dX3_fits_28 : decode cX3_fits 28 = .ok (.imul, 1) := by decide +kernel
theorem dX3_fits_29 : decode cX3_fits 29 = .ok (.aload_n 1, 1) := by decide +kernel
theorem dX3_fits_30 : decode cX3_fits 30 = .ok (.invokevirtual 103, 3) := by decide +kernel
theorem dX3_fits_33 : decode cX3_fits 33 = .ok (.if_icmp .ne 7, 3) := by decide +kernel
theorem dX3_fits_36 : decode cX3_fits 36 = .ok (.iconst 1, 1) := by decide +kernel
theorem dX3_fits_37 : decode cX3_fits 37 = .ok (.goto 4, 3) := by decide +kernel
theorem dX3_fits_40 : decode cX3_fits 40 = .ok (.iconst 0, 1) := by decide +kernel
theorem dX3_fits_41 : decode cX3_fits 41 = .ok (.istore 5, 2) := by decide +kernel
theorem dX3_fits_43 : decode cX3_fits 43 = .ok (.iload_n 2, 1) := by decide +kernel
theorem dX3_fits_44 : decode cX3_fits 44 = .ok (.istore 6, 2) := by decide +kernel
theorem dX3_fits_46 : decode cX3_fits 46 = .ok (.iconst 0, 1) := by decide +kernel
theorem dX3_fits_47 : decode cX3_fits 47 = .ok (.istore 7, 2) := by decide +kernel
theorem dX3_fits_49 : decode cX3_fits 49 = .ok (.iload 7, 2) := by decide +kernel
theorem dX3_fits_51 : decode cX3_fits 51 = .ok (.aload_n 0, 1) := by decide +kernel
theorem dX3_fits_52 : decode cX3_fits 52 = .ok (.getfield 12, 3) := by decide +kernel
theorem dX3_fits_55 : decode cX3_fits 55 = .ok (.getfield 59, 3) := by decide +kernel
theorem dX3_fits_58 : decode cX3_fits 58 = .ok (.if_icmp .ge 81, 3) := by decide +kernel
theorem dX3_fits_61 : decode cX3_fits 61 = .ok (.iload 5, 2) := by decide +kernel
theorem dX3_fits_63 : decode cX3_fits 63 = .ok (.ifCond .eq 13, 3) := by decide +kernel
theorem dX3_fits_66 : decode cX3_fits 66 = .ok (.aload 4, 2) := by decide +kernel
theorem dX3_fits_68 : decode cX3_fits 68 = .ok (.iload 6, 2) := by decide +kernel
theorem dX3_fits_70 : decode cX3_fits 70 = .ok (.invokevirtual 74, 3) := by decide +kernel
theorem dX3_fits_73 : decode cX3_fits 73 = .ok (.goto 10, 3) := by decide +kernel
theorem dX3_fits_76 : decode cX3_fits 76 = .ok (.aload 4, 2) := by decide +kernel
theorem dX3_fits_78 : decode cX3_fits 78 = .ok (.iload 6, 2) := by decide +kernel
theorem dX3_fits_80 : decode cX3_fits 80 = .ok (.invokevirtual 107, 3) := by decide +kernel
theorem dX3_fits_83 : decode cX3_fits 83 = .ok (.istore 8, 2) := by decide +kernel
theorem dX3_fits_85 : decode cX3_fits 85 = .ok (.iload 5, 2) := by decide +kernel
theorem dX3_fits_87 : decode cX3_fits 87 = .ok (.ifCond .eq 13, 3) := by decide +kernel
theorem dX3_fits_90 : decode cX3_fits 90 = .ok (.aload 4, 2) := by decide +kernel
theorem dX3_fits_92 : decode cX3_fits 92 = .ok (.iload 6, 2) := by decide +kernel
theorem dX3_fits_94 : decode cX3_fits 94 = .ok (.invokevirtual 107, 3) := by decide +kernel
theorem dX3_fits_97 : decode cX3_fits 97 = .ok (.goto 10, 3) := by decide +kernel
theorem dX3_fits_100 : decode cX3_fits 100 = .ok (.aload 4, 2) := by decide +kernel
theorem dX3_fits_102 : decode cX3_fits 102 = .ok (.iload 6, 2) := by decide +kernel
theorem dX3_fits_104 : decode cX3_fits 104 = .ok (.invokevirtual 74, 3) := by decide +kernel
theorem dX3_fits_107 : decode cX3_fits 107 = .ok (.istore 9, 2) := by decide +kernel
theorem dX3_fits_109 : decode cX3_fits 109 = .ok (.aload_n 0, 1) := by decide +kernel
theorem dX3_fits_110 : decode cX3_fits 110 = .ok (.iload 7, 2) := by decide +kernel
theorem dX3_fits_112 : decode cX3_fits 112 = .ok (.aload 4, 2) := by decide +kernel
theorem dX3_fits_114 : decode cX3_fits 114 = .ok (.iload 9, 2) := by decide +kernel
theorem dX3_fits_116 : decode cX3_fits 116 = .ok (.iload 6, 2) := by decide +kernel
theorem dX3_fits_118 : decode cX3_fits 118 = .ok (.iload 8, 2) := by decide +kernel
theorem dX3_fits_120 : decode cX3_fits 120 = .ok (.iload_n 3, 1) := by decide +kernel
theorem dX3_fits_121 : decode cX3_fits 121 = .ok (.invokevirtual 110, 3) := by decide +kernel
theorem dX3_fits_124 : decode cX3_fits 124 = .ok (.ifCond .ne 5, 3) := by decide +kernel
theorem dX3_fits_127 : decode cX3_fits 127 = .ok (.iconst 0, 1) := by decide +kernel
theorem dX3_fits_128 : decode cX3_fits 128 = .ok (.ireturn, 1) := by decide +kernel
theorem dX3_fits_129 : decode cX3_fits 129 = .ok (.iload 8, 2) := by decide +kernel
theorem dX3_fits_131 : decode cX3_fits 131 = .ok (.istore 6, 2) := by decide +kernel
theorem dX3_fits_133 : decode cX3_fits 133 = .ok (.iinc 7 1, 3) := by decide +kernel
theorem dX3_fits_136 : decode cX3_fits 136 = .ok (.goto (-87), 3) := by decide +kernel
theorem dX3_fits_139 : decode cX3_fits 139 = .ok (.iconst 1, 1) := by decide +kernel
theorem dX3_fits_140 : decode cX3_fits 140 = .ok (.ireturn, 1) := by decide +kernel
set_option maxRecDepth 20000 in
theorem ggX3_fitsCorner_X1_before : GoodIn wsX3_fitsCorner wsX1_before := goodIn_r _ [6, 7, 38, 39, 40] (by decide +kernel) (by decide +kernel)
set_option maxRecDepth 20000 in
theorem gX3_fitsCorner_X1_before : GoodIn wsX3_fitsCorner (wsV RX3 107 RX1 yX1_before wsX1_before) := goodIn_app (goodIn_of _ (by decide +kernel)) ggX3_fitsCorner_X1_before
set_option maxRecDepth 20000 in
theorem ggX3_fitsCorner_X1_after : GoodIn wsX3_fitsCorner wsX1_after := goodIn_r _ [11, 7, 38, 39, 40] (by decide +kernel) (by decide +kernel)
set_option maxRecDepth 20000 in
theorem gX3_fitsCorner_X1_after : GoodIn wsX3_fitsCorner (wsV RX3 74 RX1 yX1_after wsX1_after) := goodIn_app (goodIn_of _ (by decide +kernel)) ggX3_fitsCorner_X1_after
set_option maxRecDepth 20000 in
theorem ggX3_fitsCorner_X1_squaredLength : GoodIn wsX3_fitsCorner wsX1_squaredLength := goodIn_r _ [15, 16, 17, 38, 39, 40] (by decide +kernel) (by decide +kernel)
set_option maxRecDepth 20000 in
theorem gX3_fitsCorner_X1_squaredLength : GoodIn wsX3_fitsCorner (wsV RX3 114 RX1 yX1_squaredLength wsX1_squaredLength) := goodIn_app (goodIn_of _ (by decide +kernel)) ggX3_fitsCorner_X1_squaredLength
set_option maxRecDepth 20000 in
theorem ggX3_fitsCorner_X1_turn : GoodIn wsX3_fitsCorner wsX1_turn := goodIn_r _ [21, 16, 17, 38, 39, 40] (by decide +kernel) (by decide +kernel)
set_option maxRecDepth 20000 in
theorem gX3_fitsCorner_X1_turn : GoodIn wsX3_fitsCorner (wsV RX3 117 RX1 yX1_turn wsX1_turn) := goodIn_app (goodIn_of _ (by decide +kernel)) ggX3_fitsCorner_X1_turn
set_option maxRecDepth 20000 in
theorem ggX3_fitsCorner_X1_advance : GoodIn wsX3_fitsCorner wsX1_advance := goodIn_r _ [25, 16, 17, 38, 39, 40] (by decide +kernel) (by decide +kernel)
set_option maxRecDepth 20000 in
theorem gX3_fitsCorner_X1_advance : GoodIn wsX3_fitsCorner (wsV RX3 120 RX1 yX1_advance wsX1_advance) := goodIn_app (goodIn_of _ (by decide +kernel)) ggX3_fitsCorner_X1_advance
theorem dX3_fitsCorner_0 : decode cX3_fitsCorner 0 = .ok (.aload_n 0, 1) := by decide +kernel
theorem dX3_fitsCorner_1 : decode cX3_fitsCorner 1 = .ok (.getfield 12, 3) := by decide +kernel
theorem dX3_fitsCorner_4 : decode cX3_fitsCorner 4 = .ok (.iload_n 1, 1) := by decide +kernel
theorem dX3_fitsCorner_5 : decode cX3_fitsCorner 5 = .ok (.invokevirtual 107, 3) := by decide +kernel
theorem dX3_fitsCorner_8 : decode cX3_fitsCorner 8 = .ok (.istore 7, 2) := by decide +kernel
theorem dX3_fitsCorner_10 : decode cX3_fitsCorner 10 = .ok (.aload_n 0, 1) := by decide +kernel
theorem dX3_fitsCorner_11 : decode cX3_fitsCorner 11 = .ok (.getfield 12, 3) := by decide +kernel
theorem dX3_fitsCorner_14 : decode cX3_fitsCorner 14 = .ok (.iload_n 1, 1) := by decide +kernel
theorem dX3_fitsCorner_15 : decode cX3_fitsCorner 15 = .ok (.invokevirtual 74, 3) := by decide +kernel
theorem dX3_fitsCorner_18 : decode cX3_fitsCorner 18 = .ok (.istore 8, 2) := by decide +kernel
theorem dX3_fitsCorner_20 : decode cX3_fitsCorner 20 = .ok (.aload_n 0, 1) := by decide +kernel
theorem dX3_fitsCorner_21 : decode cX3_fitsCorner 21 = .ok (.getfield 12, 3) := by decide +kernel
theorem dX3_fitsCorner_24 : decode cX3_fitsCorner 24 = .ok (.iload_n 1, 1) := by decide +kernel
theorem dX3_fitsCorner_25 : decode cX3_fitsCorner 25 = .ok (.iload 8, 2) := by decide +kernel
theorem dX3_fitsCorner_27 : decode cX3_fitsCorner 27 = .ok (.invokevirtual 114, 3) := by decide +kernel
theorem dX3_fitsCorner_30 : decode cX3_fitsCorner 30 = .ok (.aload_n 2, 1) := by decide +kernel
theorem dX3_fitsCorner_31 : decode cX3_fitsCorner 31 = .ok (.iload 4, 2) := by decide +kernel
theorem dX3_fitsCorner_33 : decode cX3_fitsCorner 33 = .ok (.iload 5, 2) := by decide +kernel
theorem dX3_fitsCorner_35 : decode cX3_fitsCorner 35 = .ok (.invokevirtual 114, 3) := by decide +kernel
theorem dX3_fitsCorner_38 : decode cX3_fitsCorner 38 = .ok (.if_icmp .ne 58, 3) := by decide +kernel
theorem dX3_fitsCorner_41 : decode cX3_fitsCorner 41 = .ok (.aload_n 0, 1) := by decide +kernel
theorem dX3_fitsCorner_42 : decode cX3_fitsCorner 42 = .ok (.getfield 12, 3) := by decide +kernel
theorem dX3_fitsCorner_45 : decode cX3_fitsCorner 45 = .ok (.iload 7, 2) := by decide +kernel
theorem dX3_fitsCorner_47 : decode cX3_fitsCorner 47 = .ok (.iload_n 1, 1) := by decide +kernel
theorem dX3_fitsCorner_48 : decode cX3_fitsCorner 48 = .ok (.iload 8, 2) := by decide +kernel
theorem dX3_fitsCorner_50 : decode cX3_fitsCorner 50 = .ok (.invokevirtual 117, 3) := by decide +kernel
theorem dX3_fitsCorner_53 : decode cX3_fitsCorner 53 = .ok (.iload 6, 2) := by decide +kernel
theorem dX3_fitsCorner_55 : decode cX3_fitsCorner 55 = .ok (.aload_n 2, 1) := by decide +kernel
theorem dX3_fitsCorner_56 : decode cX3_fitsCorner 56 = .ok (.iload_n 3, 1) := by decide +kernel
theorem dX3_fitsCorner_57 : decode cX3_fitsCorner 57 = .ok (.iload 4, 2) := by decide +kernel
theorem dX3_fitsCorner_59 : decode cX3_fitsCorner 59 = .ok (.iload 5, 2) := by decide +kernel
theorem dX3_fitsCorner_61 : decode cX3_fitsCorner 61 = .ok (.invokevirtual 117, 3) := by decide +kernel
theorem dX3_fitsCorner_64 : decode cX3_fitsCorner 64 = .ok (.imul, 1) := by decide +kernel
theorem dX3_fitsCorner_65 : decode cX3_fitsCorner 65 = .ok (.if_icmp .ne 31, 3) := by decide +kernel
theorem dX3_fitsCorner_68 : decode cX3_fitsCorner 68 = .ok (.aload_n 0, 1) := by decide +kernel
theorem dX3_fitsCorner_69 : decode cX3_fitsCorner 69 = .ok (.getfield 12, 3) := by decide +kernel
theorem dX3_fitsCorner_72 : decode cX3_fitsCorner 72 = .ok (.iload 7, 2) := by decide +kernel
theorem dX3_fitsCorner_74 : decode cX3_fitsCorner 74 = .ok (.iload_n 1, 1) := by decide +kernel
theorem dX3_fitsCorner_75 : decode cX3_fitsCorner 75 = .ok (.iload 8, 2) := by decide +kernel
theorem dX3_fitsCorner_77 : decode cX3_fitsCorner 77 = .ok (.invokevirtual 120, 3) := by decide +kernel
theorem dX3_fitsCorner_80 : decode cX3_fitsCorner 80 = .ok (.aload_n 2, 1) := by decide +kernel
theorem dX3_fitsCorner_81 : decode cX3_fitsCorner 81 = .ok (.iload_n 3, 1) := by decide +kernel
theorem dX3_fitsCorner_82 : decode cX3_fitsCorner 82 = .ok (.iload 4, 2) := by decide +kernel
theorem dX3_fitsCorner_84 : decode cX3_fitsCorner 84 = .ok (.iload 5, 2) := by decide +kernel
theorem dX3_fitsCorner_86 : decode cX3_fitsCorner 86 = .ok (.invokevirtual 120, 3) := by decide +kernel
theorem dX3_fitsCorner_89 : decode cX3_fitsCorner 89 = .ok (.if_icmp .ne 7, 3) := by decide +kernel
theorem dX3_fitsCorner_92 : decode cX3_fitsCorner 92 = .ok (.iconst 1, 1) := by decide +kernel
theorem dX3_fitsCorner_93 : decode cX3_fitsCorner 93 = .ok (.goto 4, 3) := by decide +kernel
theorem dX3_fitsCorner_96 : decode cX3_fitsCorner 96 = .ok (.iconst 0, 1) := by decide +kernel
theorem dX3_fitsCorner_97 : decode cX3_fitsCorner 97 = .ok (.ireturn, 1) := by decide +kernel
theorem dX4_init_0 : decode cX4_init 0 = .ok (.aload_n 0, 1) := by decide +kernel
theorem dX4_init_1 : decode cX4_init 1 = .ok (.invokespecial 3, 3) := by decide +kernel
theorem dX4_init_4 : decode cX4_init 4 = .ok (.aload_n 0, 1) := by decide +kernel
theorem dX4_init_5 : decode cX4_init 5 = .ok (.bipush 14, 2) := by decide +kernel
theorem dX4_init_7 : decode cX4_init 7 = .ok (.newarray .int, 2) := by decide +kernel
theorem dX4_init_9 : decode cX4_init 9 = .ok (.putfield 9, 3) := by decide +kernel
theorem dX4_init_12 : decode cX4_init 12 = .ok (.return_, 1) := by decide +kernel
set_option maxRecDepth 20000 in
theorem ggX4_measure_X4_leastNext : GoodIn wsX4_measure wsX4_leastNext := goodIn_r _ [8, 1, 2, 9, 3, 10, 11, 12, 13, 14, 15, 16, 17, 18, 19, 20, 21, 22, 23, 24, 25] (by decide +kernel) (by decide +kernel)
set_option maxRecDepth 20000 in
theorem gX4_measure_X4_leastNext : GoodIn wsX4_measure (wsV RX4 27 RX4 yX4_leastNext wsX4_leastNext) := goodIn_app (goodIn_of _ (by decide +kernel)) ggX4_measure_X4_leastNext
theorem dX4_measure_0 : decode cX4_measure 0 = .ok (.aload_n 1, 1) := by decide +kernel
theorem dX4_measure_1 : decode cX4_measure 1 = .ok (.getfield 15, 3) := by decide +kernel
theorem dX4_measure_4 : decode cX4_measure 4 = .ok (.getfield 21, 3) := by decide +kernel
theorem dX4_measure_7 : decode cX4_measure 7 = .ok (.istore_n 3, 1) := by decide +kernel
theorem dX4_measure_8 : decode cX4_measure 8 = .ok (.iconst 0, 1) := by decide +kernel
theorem dX4_measure_9 : decode cX4_measure 9 = .ok (.istore 4, 2) := by decide +kernel
theorem dX4_measure_11 : decode cX4_measure 11 = .ok (.iload 4, 2) := by decide +kernel
theorem dX4_measure_13 : decode cX4_measure 13 = .ok (.iload_n 3, 1) := by decide +kernel
theorem dX4_measure_14 : decode cX4_measure 14 = .ok (.if_icmp .ge 17, 3) := by decide +kernel
theorem dX4_measure_17 : decode cX4_measure 17 = .ok (.aload_n 0, 1) := by decide +kernel
theorem dX4_measure_18 : decode cX4_measure 18 = .ok (.getfield 9, 3) := by decide +kernel
theorem dX4_measure_21 : decode cX4_measure 21 = .ok (.iload 4, 2) := by decide +kernel
theorem dX4_measure_23 : decode cX4_measure 23 = .ok (.iconst (-1), 1) := by decide +kernel
theorem dX4_measure_24 : decode cX4_measure 24 = .ok (.iastore, 1) := by decide +kernel
theorem dX4_measure_25 : decode cX4_measure 25 = .ok (.iinc 4 1, 3) := by decide +kernel
theorem dX4_measure_28 : decode cX4_measure 28 = .ok (.goto (-17), 3) := by decide +kernel
theorem dX4_measure_31 : decode cX4_measure 31 = .ok (.aload_n 0, 1) := by decide +kernel
theorem dX4_measure_32 : decode cX4_measure 32 = .ok (.getfield 9, 3) := by decide +kernel
theorem dX4_measure_35 : decode cX4_measure 35 = .ok (.iload_n 2, 1) := by decide +kernel
theorem dX4_measure_36 : decode cX4_measure 36 = .ok (.iconst 0, 1) := by decide +kernel
theorem dX4_measure_37 : decode cX4_measure 37 = .ok (.iastore, 1) := by decide +kernel
theorem dX4_measure_38 : decode cX4_measure 38 = .ok (.iconst 1, 1) := by decide +kernel
theorem dX4_measure_39 : decode cX4_measure 39 = .ok (.istore 4, 2) := by decide +kernel
theorem dX4_measure_41 : decode cX4_measure 41 = .ok (.iload 4, 2) := by decide +kernel
theorem dX4_measure_43 : decode cX4_measure 43 = .ok (.iload_n 3, 1) := by decide +kernel
theorem dX4_measure_44 : decode cX4_measure 44 = .ok (.if_icmp .ge 59, 3) := by decide +kernel
theorem dX4_measure_47 : decode cX4_measure 47 = .ok (.iconst 0, 1) := by decide +kernel
theorem dX4_measure_48 : decode cX4_measure 48 = .ok (.istore 5, 2) := by decide +kernel
theorem dX4_measure_50 : decode cX4_measure 50 = .ok (.iload 5, 2) := by decide +kernel
theorem dX4_measure_52 : decode cX4_measure 52 = .ok (.iload_n 3, 1) := by decide +kernel
theorem dX4_measure_53 : decode cX4_measure 53 = .ok (.if_icmp .ge 44, 3) := by decide +kernel
theorem dX4_measure_56 : decode cX4_measure 56 = .ok (.aload_n 0, 1) := by decide +kernel
theorem dX4_measure_57 : decode cX4_measure 57 = .ok (.getfield 9, 3) := by decide +kernel
theorem dX4_measure_60 : decode cX4_measure 60 = .ok (.iload 5, 2) := by decide +kernel
theorem dX4_measure_62 : decode cX4_measure 62 = .ok (.iaload, 1) := by decide +kernel
theorem dX4_measure_63 : decode cX4_measure 63 = .ok (.iconst (-1), 1) := by decide +kernel
theorem dX4_measure_64 : decode cX4_measure 64 = .ok (.if_icmp .ne 27, 3) := by decide +kernel
theorem dX4_measure_67 : decode cX4_measure 67 = .ok (.aload_n 0, 1) := by decide +kernel
theorem dX4_measure_68 : decode cX4_measure 68 = .ok (.aload_n 1, 1) := by decide +kernel
theorem dX4_measure_69 : decode cX4_measure 69 = .ok (.iload 5, 2) := by decide +kernel
theorem dX4_measure_71 : decode cX4_measure 71 = .ok (.iload 4, 2) := by decide +kernel
theorem dX4_measure_73 : decode cX4_measure 73 = .ok (.iconst 1, 1) := by decide +kernel
theorem dX4_measure_74 : decode cX4_measure 74 = .ok (.isub, 1) := by decide +kernel
theorem dX4_measure_75 : decode cX4_measure 75 = .ok (.invokevirtual 27, 3) := by decide +kernel
theorem dX4_measure_78 : decode cX4_measure 78 = .ok (.iconst (-1), 1) := by decide +kernel
theorem dX4_measure_79 : decode cX4_measure 79 = .ok (.if_icmp .eq 12, 3) := by decide +kernel
theorem dX4_measure_82 : decode cX4_measure 82 = .ok (.aload_n 0, 1) := by decide +kernel
theorem dX4_measure_83 : decode cX4_measure 83 = .ok (.getfield 9, 3) := by decide +kernel
theorem dX4_measure_86 : decode cX4_measure 86 = .ok (.iload 5, 2) := by decide +kernel
theorem dX4_measure_88 : decode cX4_measure 88 = .ok (.iload 4, 2) := by decide +kernel
theorem dX4_measure_90 : decode cX4_measure 90 = .ok (.iastore, 1) := by decide +kernel
theorem dX4_measure_91 : decode cX4_measure 91 = .ok (.iinc 5 1, 3) := by decide +kernel
theorem dX4_measure_94 : decode cX4_measure 94 = .ok (.goto (-44), 3) := by decide +kernel
theorem dX4_measure_97 : decode cX4_measure 97 = .ok (.iinc 4 1, 3) := by decide +kernel
theorem dX4_measure_100 : decode cX4_measure 100 = .ok (.goto (-59), 3) := by decide +kernel
theorem dX4_measure_103 : decode cX4_measure 103 = .ok (.return_, 1) := by decide +kernel
set_option maxRecDepth 20000 in
theorem ggX4_cornerAfter_X4_leastNext : GoodIn wsX4_cornerAfter wsX4_leastNext := goodIn_r _ [6, 7, 8, 9, 1, 11, 12, 13, 14, 15, 16, 17, 18, 19, 20, 21, 22, 23, 24, 25, 10] (by decide +kernel) (by decide +kernel)
set_option maxRecDepth 20000 in
theorem gX4_cornerAfter_X4_leastNext : GoodIn wsX4_cornerAfter (wsV RX4 27 RX4 yX4_leastNext wsX4_leastNext) := goodIn_app (goodIn_of _ (by decide +kernel)) ggX4_cornerAfter_X4_leastNext
theorem dX4_cornerAfter_0 : decode cX4_cornerAfter 0 = .ok (.iload_n 3, 1) := by decide +kernel
theorem dX4_cornerAfter_1 : decode cX4_cornerAfter 1 = .ok (.ifCond .lt 13, 3) := by decide +kernel
theorem dX4_cornerAfter_4 : decode cX4_cornerAfter 4 = .ok (.iload_n 3, 1) := by decide +kernel
theorem dX4_cornerAfter_5 : decode cX4_cornerAfter 5 = .ok (.aload_n 0, 1) := by decide +kernel
theorem dX4_cornerAfter_6 : decode cX4_cornerAfter 6 = .ok (.getfield 9, 3) := by decide +kernel
theorem dX4_cornerAfter_9 : decode cX4_cornerAfter 9 = .ok (.iload_n 2, 1) := by decide +kernel
theorem dX4_cornerAfter_10 : decode cX4_cornerAfter 10 = .ok (.iaload, 1) := by decide +kernel
theorem dX4_cornerAfter_11 : decode cX4_cornerAfter 11 = .ok (.if_icmp .le 5, 3) := by decide +kernel
theorem dX4_cornerAfter_14 : decode cX4_cornerAfter 14 = .ok (.iconst (-1), 1) := by decide +kernel
theorem dX4_cornerAfter_15 : decode cX4_cornerAfter 15 = .ok (.ireturn, 1) := by decide +kernel
theorem dX4_cornerAfter_16 : decode cX4_cornerAfter 16 = .ok (.iload_n 2, 1) := by decide +kernel
theorem dX4_cornerAfter_17 : decode cX4_cornerAfter 17 = .ok (.istore 4, 2) := by decide +kernel
theorem dX4_cornerAfter_19 : decode cX4_cornerAfter 19 = .ok (.aload_n 0, 1) := by decide +kernel
theorem dX4_cornerAfter_20 : decode cX4_cornerAfter 20 = .ok (.getfield 9, 3) := by decide +kernel
theorem dX4_cornerAfter_23 : decode cX4_cornerAfter 23 = .ok (.iload_n 2, 1) := by decide +kernel
theorem dX4_cornerAfter_24 : decode cX4_cornerAfter 24 = .ok (.iaload, 1) := by decide +kernel
theorem dX4_cornerAfter_25 : decode cX4_cornerAfter 25 = .ok (.iconst 1, 1) := by decide +kernel
theorem dX4_cornerAfter_26 : decode cX4_cornerAfter 26 = .ok (.isub, 1) := by decide +kernel
theorem dX4_cornerAfter_27 : decode cX4_cornerAfter 27 = .ok (.istore 5, 2) := by decide +kernel
theorem dX4_cornerAfter_29 : decode cX4_cornerAfter 29 = .ok (.iload 5, 2) := by decide +kernel
theorem dX4_cornerAfter_31 : decode cX4_cornerAfter 31 = .ok (.aload_n 0, 1) := by decide +kernel
theorem dX4_cornerAfter_32 : decode cX4_cornerAfter 32 = .ok (.getfield 9, 3) := by decide +kernel
theorem dX4_cornerAfter_35 : decode cX4_cornerAfter 35 = .ok (.iload_n 2, 1) := by decide +kernel
theorem dX4_cornerAfter_36 : decode cX4_cornerAfter 36 = .ok (.iaload, 1) := by decide +kernel
theorem dX4_cornerAfter_37 : decode cX4_cornerAfter 37 = .ok (.iload_n 3, 1) := by decide +kernel
theorem dX4_cornerAfter_38 : decode cX4_cornerAfter 38 = .ok (.isub, 1) := by decide +kernel
theorem dX4_cornerAfter_39 : decode cX4_cornerAfter 39 = .ok (.if_icmp .lt 32, 3) := by decide +kernel
theorem dX4_cornerAfter_42 : decode cX4_cornerAfter 42 = .ok (.aload_n 0, 1) := by decide +kernel
theorem dX4_cornerAfter_43 : decode cX4_cornerAfter 43 = .ok (.aload_n 1, 1) := by decide +kernel
theorem dX4_cornerAfter_44 : decode cX4_cornerAfter 44 = .ok (.iload 4, 2) := by decide +kernel
theorem dX4_cornerAfter_46 : decode cX4_cornerAfter 46 = .ok (.iload 5, 2) := by decide +kernel
theorem dX4_cornerAfter_48 : decode cX4_cornerAfter 48 = .ok (.invokevirtual 27, 3) := by decide +kernel
theorem dX4_cornerAfter_51 : decode cX4_cornerAfter 51 = .ok (.istore 6, 2) := by decide +kernel
theorem dX4_cornerAfter_53 : decode cX4_cornerAfter 53 = .ok (.iload 6, 2) := by decide +kernel
theorem dX4_cornerAfter_55 : decode cX4_cornerAfter 55 = .ok (.iconst (-1), 1) := by decide +kernel
theorem dX4_cornerAfter_56 : decode cX4_cornerAfter 56 = .ok (.if_icmp .ne 5, 3) := by decide +kernel
theorem dX4_cornerAfter_59 : decode cX4_cornerAfter 59 = .ok (.iconst (-1), 1) := by decide +kernel
theorem dX4_cornerAfter_60 : decode cX4_cornerAfter 60 = .ok (.ireturn, 1) := by decide +kernel
theorem dX4_cornerAfter_61 : decode cX4_cornerAfter 61 = .ok (.iload 6, 2) := by decide +kernel
theorem dX4_cornerAfter_63 : decode cX4_cornerAfter 63 = .ok (.istore 4, 2) := by decide +kernel
theorem dX4_cornerAfter_65 : decode cX4_cornerAfter 65 = .ok (.iinc 5 (-1), 3) := by decide +kernel
theorem dX4_cornerAfter_68 : decode cX4_cornerAfter 68 = .ok (.goto (-39), 3) := by decide +kernel
theorem dX4_cornerAfter_71 : decode cX4_cornerAfter 71 = .ok (.iload 4, 2) := by decide +kernel
theorem dX4_cornerAfter_73 : decode cX4_cornerAfter 73 = .ok (.ireturn, 1) := by decide +kernel
theorem dX4_leastNext_0 : decode cX4_leastNext 0 = .ok (.iconst 0, 1) := by decide +kernel
theorem dX4_leastNext_1 : decode cX4_leastNext 1 = .ok (.istore 4, 2) := by decide +kernel
theorem dX4_leastNext_3 : decode cX4_leastNext 3 = .ok (.iload 4, 2) := by decide +kernel
theorem dX4_leastNext_5 : decode cX4_leastNext 5 = .ok (.aload_n 1, 1) := by decide +kernel
theorem dX4_leastNext_6 : decode cX4_leastNext 6 = .ok (.getfield 15, 3) := by decide +kernel
theorem dX4_leastNext_9 : decode cX4_leastNext 9 = .ok (.getfield 21, 3) := by decide +kernel
theorem dX4_leastNext_12 : decode cX4_leastNext 12 = .ok (.if_icmp .ge 35, 3) := by decide +kernel
theorem dX4_leastNext_15 : decode cX4_leastNext 15 = .ok (.aload_n 1, 1) := by decide +kernel
theorem dX4_leastNext_16 : decode cX4_leastNext 16 = .ok (.getfield 31, 3) := by decide +kernel
theorem dX4_leastNext_19 : decode cX4_leastNext 19 = .ok (.iload_n 2, 1) := by decide +kernel
theorem dX4_leastNext_20 : decode cX4_leastNext 20 = .ok (.aaload, 1) := by decide +kernel
theorem dX4_leastNext_21 : decode cX4_leastNext 21 = .ok (.iload 4, 2) := by decide +kernel
theorem dX4_leastNext_23 : decode cX4_leastNext 23 = .ok (.iaload, 1) := by decide +kernel
theorem dX4_leastNext_24 : decode cX4_leastNext 24 = .ok (.ifCond .eq 17, 3) := by decide +kernel
theorem dX4_leastNext_27 : decode cX4_leastNext 27 = .ok (.aload_n 0, 1) := by decide +kernel
theorem dX4_leastNext_28 : decode cX4_leastNext 28 = .ok (.getfield 9, 3) := by decide +kernel
theorem dX4_leastNext_31 : decode cX4_leastNext 31 = .ok (.iload 4, 2) := by decide +kernel
theorem dX4_leastNext_33 : decode cX4_leastNext 33 = .ok (.iaload, 1) := by decide +kernel
theorem dX4_leastNext_34 : decode cX4_leastNext 34 = .ok (.iload_n 3, 1) := by decide +kernel
theorem dX4_leastNext_35 : decode cX4_leastNext 35 = .ok (.if_icmp .ne 6, 3) := by decide +kernel
theorem dX4_leastNext_38 : decode cX4_leastNext 38 = .ok (.iload 4, 2) := by decide +kernel
theorem dX4_leastNext_40 : decode cX4_leastNext 40 = .ok (.ireturn, 1) := by decide +kernel
theorem dX4_leastNext_41 : decode cX4_leastNext 41 = .ok (.iinc 4 1, 3) := by decide +kernel
theorem dX4_leastNext_44 : decode cX4_leastNext 44 = .ok (.goto (-41), 3) := by decide +kernel
theorem dX4_leastNext_47 : decode cX4_leastNext 47 = .ok (.iconst (-1), 1) := by decide +kernel
theorem dX4_leastNext_48 : decode cX4_leastNext 48 = .ok (.ireturn, 1) := by decide +kernel
