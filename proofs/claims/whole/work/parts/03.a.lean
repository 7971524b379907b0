theorem dX0_init_0 : decode cX0_init 0 = .ok (.aload_n 0, 1) := by decide +kernel
theorem dX0_init_1 : decode cX0_init 1 = .ok (.invokespecial 3, 3) := by decide +kernel
theorem dX0_init_4 : decode cX0_init 4 = .ok (.aload_n 0, 1) := by decide +kernel
theorem dX0_init_5 : decode cX0_init 5 = .ok (.iconst 0, 1) := by decide +kernel
theorem dX0_init_6 : decode cX0_init 6 = .ok (.putfield 9, 3) := by decide +kernel
theorem dX0_init_9 : decode cX0_init 9 = .ok (.aload_n 0, 1) := by decide +kernel
theorem dX0_init_10 : decode cX0_init 10 = .ok (.iconst (-1), 1) := by decide +kernel
theorem dX0_init_11 : decode cX0_init 11 = .ok (.putfield 15, 3) := by decide +kernel
theorem dX0_init_14 : decode cX0_init 14 = .ok (.aload_n 0, 1) := by decide +kernel
theorem dX0_init_15 : decode cX0_init 15 = .ok (.iconst (-1), 1) := by decide +kernel
theorem dX0_init_16 : decode cX0_init 16 = .ok (.putfield 18, 3) := by decide +kernel
theorem dX0_init_19 : decode cX0_init 19 = .ok (.return_, 1) := by decide +kernel
set_option maxRecDepth 20000 in
theorem ggX0_examine_X0_note : GoodIn wsX0_examine wsX0_note := goodIn_r _ [7, 2, 8, 9, 56, 57, 58] (by decide +kernel) (by decide +kernel)
set_option maxRecDepth 20000 in
theorem gX0_examine_X0_note : GoodIn wsX0_examine (wsV RX0 21 RX0 yX0_note wsX0_note) := goodIn_app (goodIn_of _ (by decide +kernel)) ggX0_examine_X0_note
set_option maxRecDepth 20000 in
theorem ggX0_examine_X0_findFlatCorner : GoodIn wsX0_examine wsX0_findFlatCorner := goodIn_r _ [13, 1, 14, 15, 16, 17, 18, 19, 20, 21, 22, 23, 24, 25, 26, 27, 28, 29, 3, 4, 5, 6, 7, 2, 8, 9, 53, 54, 55, 56, 57, 58] (by decide +kernel) (by decide +kernel)
set_option maxRecDepth 20000 in
theorem gX0_examine_X0_findFlatCorner : GoodIn wsX0_examine (wsV RX0 30 RX0 yX0_findFlatCorner wsX0_findFlatCorner) := goodIn_app (goodIn_of _ (by decide +kernel)) ggX0_examine_X0_findFlatCorner
set_option maxRecDepth 20000 in
theorem ggX0_examine_X0_findMeetingEdges : GoodIn wsX0_examine wsX0_findMeetingEdges := goodIn_r _ [33, 1, 20, 21, 22, 17, 23, 19, 34, 35, 36, 37, 28, 29, 38, 39, 40, 41, 42, 43, 44, 45, 46, 47, 48, 49, 50, 51, 52, 25, 26, 27, 3, 4, 5, 6, 7, 2, 8, 9, 53, 54, 55, 56, 57, 58] (by decide +kernel) (by decide +kernel)
set_option maxRecDepth 20000 in
theorem gX0_examine_X0_findMeetingEdges : GoodIn wsX0_examine (wsV RX0 34 RX0 yX0_findMeetingEdges wsX0_findMeetingEdges) := goodIn_app (goodIn_of _ (by decide +kernel)) ggX0_examine_X0_findMeetingEdges
theorem dX0_examine_0 : decode cX0_examine 0 = .ok (.aload_n 0, 1) := by decide +kernel
theorem dX0_examine_1 : decode cX0_examine 1 = .ok (.iconst 0, 1) := by decide +kernel
theorem dX0_examine_2 : decode cX0_examine 2 = .ok (.iconst (-1), 1) := by decide +kernel
theorem dX0_examine_3 : decode cX0_examine 3 = .ok (.iconst (-1), 1) := by decide +kernel
theorem dX0_examine_4 : decode cX0_examine 4 = .ok (.invokevirtual 21, 3) := by decide +kernel
theorem dX0_examine_7 : decode cX0_examine 7 = .ok (.aload_n 1, 1) := by decide +kernel
theorem dX0_examine_8 : decode cX0_examine 8 = .ok (.getfield 25, 3) := by decide +kernel
theorem dX0_examine_11 : decode cX0_examine 11 = .ok (.iconst 3, 1) := by decide +kernel
theorem dX0_examine_12 : decode cX0_examine 12 = .ok (.if_icmp .ge 11, 3) := by decide +kernel
theorem dX0_examine_15 : decode cX0_examine 15 = .ok (.aload_n 0, 1) := by decide +kernel
theorem dX0_examine_16 : decode cX0_examine 16 = .ok (.iconst 1, 1) := by decide +kernel
theorem dX0_examine_17 : decode cX0_examine 17 = .ok (.iconst (-1), 1) := by decide +kernel
theorem dX0_examine_18 : decode cX0_examine 18 = .ok (.iconst (-1), 1) := by decide +kernel
theorem dX0_examine_19 : decode cX0_examine 19 = .ok (.invokevirtual 21, 3) := by decide +kernel
theorem dX0_examine_22 : decode cX0_examine 22 = .ok (.return_, 1) := by decide +kernel
theorem dX0_examine_23 : decode cX0_examine 23 = .ok (.aload_n 0, 1) := by decide +kernel
theorem dX0_examine_24 : decode cX0_examine 24 = .ok (.aload_n 1, 1) := by decide +kernel
theorem dX0_examine_25 : decode cX0_examine 25 = .ok (.invokevirtual 30, 3) := by decide +kernel
theorem dX0_examine_28 : decode cX0_examine 28 = .ok (.aload_n 0, 1) := by decide +kernel
theorem dX0_examine_29 : decode cX0_examine 29 = .ok (.getfield 9, 3) := by decide +kernel
theorem dX0_examine_32 : decode cX0_examine 32 = .ok (.ifCond .ne 8, 3) := by decide +kernel
theorem dX0_examine_35 : decode cX0_examine 35 = .ok (.aload_n 0, 1) := by decide +kernel
theorem dX0_examine_36 : decode cX0_examine 36 = .ok (.aload_n 1, 1) := by decide +kernel
theorem dX0_examine_37 : decode cX0_examine 37 = .ok (.invokevirtual 34, 3) := by decide +kernel
theorem dX0_examine_40 : decode cX0_examine 40 = .ok (.return_, 1) := by decide +kernel
theorem dX0_note_0 : decode cX0_note 0 = .ok (.aload_n 0, 1) := by decide +kernel
theorem dX0_note_1 : decode cX0_note 1 = .ok (.iload_n 1, 1) := by decide +kernel
theorem dX0_note_2 : decode cX0_note 2 = .ok (.putfield 9, 3) := by decide +kernel
theorem dX0_note_5 : decode cX0_note 5 = .ok (.aload_n 0, 1) := by decide +kernel
theorem dX0_note_6 : decode cX0_note 6 = .ok (.iload_n 2, 1) := by decide +kernel
theorem dX0_note_7 : decode cX0_note 7 = .ok (.putfield 15, 3) := by decide +kernel
theorem dX0_note_10 : decode cX0_note 10 = .ok (.aload_n 0, 1) := by decide +kernel
theorem dX0_note_11 : decode cX0_note 11 = .ok (.iload_n 3, 1) := by decide +kernel
theorem dX0_note_12 : decode cX0_note 12 = .ok (.putfield 18, 3) := by decide +kernel
theorem dX0_note_15 : decode cX0_note 15 = .ok (.return_, 1) := by decide +kernel
set_option maxRecDepth 20000 in
theorem ggX0_findFlatCorner_X1_before : GoodIn wsX0_findFlatCorner wsX1_before := goodIn_r _ [6, 7, 26, 27, 28] (by decide +kernel) (by decide +kernel)
set_option maxRecDepth 20000 in
theorem gX0_findFlatCorner_X1_before : GoodIn wsX0_findFlatCorner (wsV RX0 37 RX1 yX1_before wsX1_before) := goodIn_app (goodIn_of _ (by decide +kernel)) ggX0_findFlatCorner_X1_before
set_option maxRecDepth 20000 in
theorem ggX0_findFlatCorner_X1_after : GoodIn wsX0_findFlatCorner wsX1_after := goodIn_r _ [11, 7, 26, 27, 28] (by decide +kernel) (by decide +kernel)
set_option maxRecDepth 20000 in
theorem gX0_findFlatCorner_X1_after : GoodIn wsX0_findFlatCorner (wsV RX0 41 RX1 yX1_after wsX1_after) := goodIn_app (goodIn_of _ (by decide +kernel)) ggX0_findFlatCorner_X1_after
set_option maxRecDepth 20000 in
theorem ggX0_findFlatCorner_X1_turn : GoodIn wsX0_findFlatCorner wsX1_turn := goodIn_r _ [15, 16, 17, 26, 27, 28] (by decide +kernel) (by decide +kernel)
set_option maxRecDepth 20000 in
theorem gX0_findFlatCorner_X1_turn : GoodIn wsX0_findFlatCorner (wsV RX0 44 RX1 yX1_turn wsX1_turn) := goodIn_app (goodIn_of _ (by decide +kernel)) ggX0_findFlatCorner_X1_turn
set_option maxRecDepth 20000 in
theorem ggX0_findFlatCorner_X0_note : GoodIn wsX0_findFlatCorner wsX0_note := goodIn_r _ [22, 23, 24, 25, 29, 30, 31] (by decide +kernel) (by decide +kernel)
set_option maxRecDepth 20000 in
theorem gX0_findFlatCorner_X0_note : GoodIn wsX0_findFlatCorner (wsV RX0 21 RX0 yX0_note wsX0_note) := goodIn_app (goodIn_of _ (by decide +kernel)) ggX0_findFlatCorner_X0_note
theorem dX0_findFlatCorner_0 : decode cX0_findFlatCorner 0 = .ok (.iconst 0, 1) := by decide +kernel
theorem dX0_findFlatCorner_1 : decode cX0_findFlatCorner 1 = .ok (.istore_n 2, 1) := by decide +kernel
theorem dX0_findFlatCorner_2 : decode cX0_findFlatCorner 2 = .ok (.iload_n 2, 1) := by decide +kernel
theorem dX0_findFlatCorner_3 : decode cX0_findFlatCorner 3 = .ok (.aload_n 1, 1) := by decide +kernel
theorem dX0_findFlatCorner_4 : decode cX0_findFlatCorner 4 = .ok (.getfield 25, 3) := by decide +kernel
theorem dX0_findFlatCorner_7 : decode cX0_findFlatCorner 7 = .ok (.if_icmp .ge 35, 3) := by decide +kernel
theorem dX0_findFlatCorner_10 : decode cX0_findFlatCorner 10 = .ok (.aload_n 1, 1) := by decide +kernel
theorem dX0_findFlatCorner_11 : decode cX0_findFlatCorner 11 = .ok (.aload_n 1, 1) := by decide +kernel
theorem dX0_findFlatCorner_12 : decode cX0_findFlatCorner 12 = .ok (.iload_n 2, 1) := by decide +kernel
theorem dX0_findFlatCorner_13 : decode cX0_findFlatCorner 13 = .ok (.invokevirtual 37, 3) := by decide +kernel
theorem dX0_findFlatCorner_16 : decode cX0_findFlatCorner 16 = .ok (.iload_n 2, 1) := by decide +kernel
theorem dX0_findFlatCorner_17 : decode cX0_findFlatCorner 17 = .ok (.aload_n 1, 1) := by decide +kernel
theorem dX0_findFlatCorner_18 : decode cX0_findFlatCorner 18 = .ok (.iload_n 2, 1) := by decide +kernel
theorem dX0_findFlatCorner_19 : decode cX0_findFlatCorner 19 = .ok (.invokevirtual 41, 3) := by decide +kernel
theorem dX0_findFlatCorner_22 : decode cX0_findFlatCorner 22 = .ok (.invokevirtual 44, 3) := by decide +kernel
theorem dX0_findFlatCorner_25 : decode cX0_findFlatCorner 25 = .ok (.ifCond .ne 11, 3) := by decide +kernel
theorem dX0_findFlatCorner_28 : decode cX0_findFlatCorner 28 = .ok (.aload_n 0, 1) := by decide +kernel
theorem dX0_findFlatCorner_29 : decode cX0_findFlatCorner 29 = .ok (.iconst 2, 1) := by decide +kernel
theorem dX0_findFlatCorner_30 : decode cX0_findFlatCorner 30 = .ok (.iload_n 2, 1) := by decide +kernel
theorem dX0_findFlatCorner_31 : decode cX0_findFlatCorner 31 = .ok (.iconst (-1), 1) := by decide +kernel
theorem dX0_findFlatCorner_32 : decode cX0_findFlatCorner 32 = .ok (.invokevirtual 21, 3) := by decide +kernel
theorem dX0_findFlatCorner_35 : decode cX0_findFlatCorner 35 = .ok (.return_, 1) := by decide +kernel
theorem dX0_findFlatCorner_36 : decode cX0_findFlatCorner 36 = .ok (.iinc 2 1, 3) := by decide +kernel
theorem dX0_findFlatCorner_39 : decode cX0_findFlatCorner 39 = .ok (.goto (-37), 3) := by decide +kernel
theorem dX0_findFlatCorner_42 : decode cX0_findFlatCorner 42 = .ok (.return_, 1) := by decide +kernel
set_option maxRecDepth 20000 in
theorem ggX0_findMeetingEdges_X1_after : GoodIn wsX0_findMeetingEdges wsX1_after := goodIn_r _ [6, 7, 40, 41, 42] (by decide +kernel) (by decide +kernel)
set_option maxRecDepth 20000 in
theorem gX0_findMeetingEdges_X1_after : GoodIn wsX0_findMeetingEdges (wsV RX0 41 RX1 yX1_after wsX1_after) := goodIn_app (goodIn_of _ (by decide +kernel)) ggX0_findMeetingEdges_X1_after
set_option maxRecDepth 20000 in
theorem ggX0_findMeetingEdges_X1_meet : GoodIn wsX0_findMeetingEdges wsX1_meet := goodIn_r _ [11, 12, 13, 14, 15, 5, 16, 17, 18, 19, 20, 21, 22, 23, 24, 25, 26, 27, 28, 29, 30, 31, 40, 41, 42] (by decide +kernel) (by decide +kernel)
set_option maxRecDepth 20000 in
theorem gX0_findMeetingEdges_X1_meet : GoodIn wsX0_findMeetingEdges (wsV RX0 48 RX1 yX1_meet wsX1_meet) := goodIn_app (goodIn_of _ (by decide +kernel)) ggX0_findMeetingEdges_X1_meet
set_option maxRecDepth 20000 in
theorem ggX0_findMeetingEdges_X0_note : GoodIn wsX0_findMeetingEdges wsX0_note := goodIn_r _ [36, 37, 38, 39, 43, 44, 45] (by decide +kernel) (by decide +kernel)
set_option maxRecDepth 20000 in
theorem gX0_findMeetingEdges_X0_note : GoodIn wsX0_findMeetingEdges (wsV RX0 21 RX0 yX0_note wsX0_note) := goodIn_app (goodIn_of _ (by decide +kernel)) ggX0_findMeetingEdges_X0_note
theorem dX0_findMeetingEdges_0 : decode cX0_findMeetingEdges 0 = .ok (.iconst 0, 1) := by decide +kernel
theorem dX0_findMeetingEdges_1 : decode cX0_findMeetingEdges 1 = .ok (.istore_n 2, 1) := by decide +kernel
theorem dX0_findMeetingEdges_2 : decode cX0_findMeetingEdges 2 = .ok (.iload_n 2, 1) := by decide +kernel
theorem dX0_findMeetingEdges_3 : decode cX0_findMeetingEdges 3 = .ok (.aload_n 1, 1) := by decide +kernel
theorem dX0_findMeetingEdges_4 : decode cX0_findMeetingEdges 4 = .ok (.getfield 25, 3) := by decide +kernel
theorem dX0_findMeetingEdges_7 : decode cX0_findMeetingEdges 7 = .ok (.if_icmp .ge 63, 3) := by decide +kernel
theorem dX0_findMeetingEdges_10 : decode cX0_findMeetingEdges 10 = .ok (.iload_n 2, 1) := by decide +kernel
theorem dX0_findMeetingEdges_11 : decode cX0_findMeetingEdges 11 = .ok (.iconst 2, 1) := by decide +kernel
theorem dX0_findMeetingEdges_12 : decode cX0_findMeetingEdges 12 = .ok (.iadd, 1) := by decide +kernel
theorem dX0_findMeetingEdges_13 : decode cX0_findMeetingEdges 13 = .ok (.istore_n 3, 1) := by decide +kernel
theorem dX0_findMeetingEdges_14 : decode cX0_findMeetingEdges 14 = .ok (.iload_n 3, 1) := by decide +kernel
theorem dX0_findMeetingEdges_15 : decode cX0_findMeetingEdges 15 = .ok (.aload_n 1, 1) := by decide +kernel
theorem dX0_findMeetingEdges_16 : decode cX0_findMeetingEdges 16 = .ok (.getfield 25, 3) := by decide +kernel
theorem dX0_findMeetingEdges_19 : decode cX0_findMeetingEdges 19 = .ok (.if_icmp .ge 45, 3) := by decide +kernel
theorem dX0_findMeetingEdges_22 : decode cX0_findMeetingEdges 22 = .ok (.aload_n 1, 1) := by decide +kernel
theorem dX0_findMeetingEdges_23 : decode cX0_findMeetingEdges 23 = .ok (.iload_n 3, 1) := by decide +kernel
theorem dX0_findMeetingEdges_24 : decode cX0_findMeetingEdges 24 = .ok (.invokevirtual 41, 3) := by decide +kernel
theorem dX0_findMeetingEdges_27 : decode cX0_findMeetingEdges 27 = .ok (.iload_n 2, 1) := by decide +kernel
theorem dX0_findMeetingEdges_28 : decode cX0_findMeetingEdges 28 = .ok (.if_icmp .eq 30, 3) := by decide +kernel
theorem dX0_findMeetingEdges_31 : decode cX0_findMeetingEdges 31 = .ok (.aload_n 1, 1) := by decide +kernel
theorem dX0_findMeetingEdges_32 : decode cX0_findMeetingEdges 32 = .ok (.iload_n 2, 1) := by decide +kernel
theorem dX0_findMeetingEdges_33 : decode cX0_findMeetingEdges 33 = .ok (.aload_n 1, 1) := by decide +kernel
theorem dX0_findMeetingEdges_34 : decode cX0_findMeetingEdges 34 = .ok (.iload_n 2, 1) := by decide +kernel
theorem dX0_findMeetingEdges_35 : decode cX0_findMeetingEdges 35 = .ok (.invokevirtual 41, 3) := by decide +kernel
theorem dX0_findMeetingEdges_38 : decode cX0_findMeetingEdges 38 = .ok (.iload_n 3, 1) := by decide +kernel
theorem dX0_findMeetingEdges_39 : decode cX0_findMeetingEdges 39 = .ok (.aload_n 1, 1) := by decide +kernel
theorem dX0_findMeetingEdges_40 : decode cX0_findMeetingEdges 40 = .ok (.iload_n 3, 1) := by decide +kernel
theorem dX0_findMeetingEdges_41 : decode cX0_findMeetingEdges 41 = .ok (.invokevirtual 41, 3) := by decide +kernel
theorem dX0_findMeetingEdges_44 : decode cX0_findMeetingEdges 44 = .ok (.invokevirtual 48, 3) := by decide +kernel
theorem dX0_findMeetingEdges_47 : decode cX0_findMeetingEdges 47 = .ok (.ifCond .eq 11, 3) := by decide +kernel
theorem dX0_findMeetingEdges_50 : decode cX0_findMeetingEdges 50 = .ok (.aload_n 0, 1) := by decide +kernel
theorem dX0_findMeetingEdges_51 : decode cX0_findMeetingEdges 51 = .ok (.iconst 3, 1) := by decide +kernel
theorem dX0_findMeetingEdges_52 : decode cX0_findMeetingEdges 52 = .ok (.iload_n 2, 1) := by decide +kernel
theorem dX0_findMeetingEdges_53 : decode cX0_findMeetingEdges 53 = .ok (.iload_n 3, 1) := by decide +kernel
theorem dX0_findMeetingEdges_54 : decode cX0_findMeetingEdges 54 = .ok (.invokevirtual 21, 3) := by decide +kernel
theorem dX0_findMeetingEdges_57 : decode cX0_findMeetingEdges 57 = .ok (.return_, 1) := by decide +kernel
theorem dX0_findMeetingEdges_58 : decode cX0_findMeetingEdges 58 = .ok (.iinc 3 1, 3) := by decide +kernel
theorem dX0_findMeetingEdges_61 : decode cX0_findMeetingEdges 61 = .ok (.goto (-47), 3) := by decide +kernel
theorem dX0_findMeetingEdges_64 : decode cX0_findMeetingEdges 64 = .ok (.iinc 2 1, 3) := by decide +kernel
theorem dX0_findMeetingEdges_67 : decode cX0_findMeetingEdges 67 = .ok (.goto (-65), 3) := by decide +kernel
theorem dX0_findMeetingEdges_70 : decode cX0_findMeetingEdges 70 = .ok (.return_, 1) := by decide +kernel
theorem dX1_init_0 : decode cX1_init 0 = .ok (.aload_n 0, 1) := by decide +kernel
theorem dX1_init_1 : decode cX1_init 1 = .ok (.invokespecial 3, 3) := by decide +kernel
theorem dX1_init_4 : decode cX1_init 4 = .ok (.aload_n 0, 1) := by decide +kernel
theorem dX1_init_5 : decode cX1_init 5 = .ok (.bipush 14, 2) := by decide +kernel
theorem dX1_init_7 : decode cX1_init 7 = .ok (.newarray .int, 2) := by decide +kernel
theorem dX1_init_9 : decode cX1_init 9 = .ok (.putfield 9, 3) := by decide +kernel
theorem dX1_init_12 : decode cX1_init 12 = .ok (.aload_n 0, 1) := by decide +kernel
theorem dX1_init_13 : decode cX1_init 13 = .ok (.bipush 14, 2) := by decide +kernel
theorem dX1_init_15 : decode cX1_init 15 = .ok (.newarray .int, 2) := by decide +kernel
theorem dX1_init_17 : decode cX1_init 17 = .ok (.putfield 15, 3) := by decide +kernel
theorem dX1_init_20 : decode cX1_init 20 = .ok (.aload_n 0, 1) := by decide +kernel
theorem dX1_init_21 : decode cX1_init 21 = .ok (.iconst 0, 1) := by decide +kernel
theorem dX1_init_22 : decode cX1_init 22 = .ok (.putfield 18, 3) := by decide +kernel
theorem dX1_init_25 : decode cX1_init 25 = .ok (.return_, 1) := by decide +kernel
theorem dX1_isFull_0 : decode cX1_isFull 0 = .ok (.aload_n 0, 1) := by decide +kernel
theorem dX1_isFull_1 : decode cX1_isFull 1 = .ok (.getfield 18, 3) := by decide +kernel
theorem dX1_isFull_4 : decode cX1_isFull 4 = .ok (.bipush 14, 2) := by decide +kernel
theorem dX1_isFull_6 : decode cX1_isFull 6 = .ok (.if_icmp .lt 7, 3) := by decide +kernel
theorem dX1_isFull_9 : decode cX1_isFull 9 = .ok (.iconst 1, 1) := by decide +kernel
theorem dX1_isFull_10 : decode cX1_isFull 10 = .ok (.goto 4, 3) := by decide +kernel
theorem dX1_isFull_13 : decode cX1_isFull 13 = .ok (.iconst 0, 1) := by decide +kernel
theorem dX1_isFull_14 : decode cX1_isFull 14 = .ok (.ireturn, 1) := by decide +kernel
theorem dX1_has_0 : decode cX1_has 0 = .ok (.iload_n 1, 1) := by decide +kernel
theorem dX1_has_1 : decode cX1_has 1 = .ok (.ifCond .lt 15, 3) := by decide +kernel
theorem dX1_has_4 : decode cX1_has 4 = .ok (.iload_n 1, 1) := by decide +kernel
theorem dX1_has_5 : decode cX1_has 5 = .ok (.aload_n 0, 1) := by decide +kernel
theorem dX1_has_6 : decode cX1_has 6 = .ok (.getfield 18, 3) := by decide +kernel
theorem dX1_has_9 : decode cX1_has 9 = .ok (.if_icmp .ge 7, 3) := by decide +kernel
theorem dX1_has_12 : decode cX1_has 12 = .ok (.iconst 1, 1) := by decide +kernel
theorem dX1_has_13 : decode cX1_has 13 = .ok (.goto 4, 3) := by decide +kernel
theorem dX1_has_16 : decode cX1_has 16 = .ok (.iconst 0, 1) := by decide +kernel
theorem dX1_has_17 : decode cX1_has 17 = .ok (.ireturn, 1) := by decide +kernel
set_option maxRecDepth 20000 in
theorem ggX1_append_X1_isFull : GoodIn wsX1_append wsX1_isFull := goodIn_r _ [8, 2, 9, 10, 11] (by decide +kernel) (by decide +kernel)
set_option maxRecDepth 20000 in
theorem gX1_append_X1_isFull : GoodIn wsX1_append (wsV RX1 22 RX1 yX1_isFull wsX1_isFull) := goodIn_app (goodIn_of _ (by decide +kernel)) ggX1_append_X1_isFull
theorem dX1_append_0 : decode cX1_append 0 = .ok (.aload_n 0, 1) := by decide +kernel
theorem dX1_append_1 : decode cX1_append 1 = .ok (.invokevirtual 22, 3) := by decide +kernel
theorem dX1_append_4 : decode cX1_append 4 = .ok (.ifCond .ne 33, 3) := by decide +kernel
theorem dX1_append_7 : decode cX1_append 7 = .ok (.aload_n 0, 1) := by decide +kernel
theorem dX1_append_8 : decode cX1_append 8 = .ok (.getfield 9, 3) := by decide +kernel
theorem dX1_append_11 : decode cX1_append 11 = .ok (.aload_n 0, 1) := by decide +kernel
theorem dX1_append_12 : decode cX1_append 12 = .ok (.getfield 18, 3) := by decide +kernel
theorem dX1_append_15 : decode cX1_append 15 = .ok (.iload_n 1, 1) := by decide +kernel
theorem dX1_append_16 : decode cX1_append 16 = .ok (.iastore, 1) := by decide +kernel
theorem dX1_append_17 : decode cX1_append 17 = .ok (.aload_n 0, 1) := by decide +kernel
theorem dX1_append_18 : decode cX1_append 18 = .ok (.getfield 15, 3) := by decide +kernel
theorem dX1_append_21 : decode cX1_append 21 = .ok (.aload_n 0, 1) := by decide +kernel
theorem dX1_append_22 : decode cX1_append 22 = .ok (.getfield 18, 3) := by decide +kernel
theorem dX1_append_25 : decode cX1_append 25 = .ok (.iload_n 2, 1) := by decide +kernel
theorem dX1_append_26 : decode cX1_append 26 = .ok (.iastore, 1) := by decide +kernel
theorem dX1_append_27 : decode cX1_append 27 = .ok (.aload_n 0, 1) := by decide +kernel
theorem dX1_append_28 : decode cX1_append 28 = .ok (.dup, 1) := by decide +kernel
theorem dX1_append_29 : decode cX1_append 29 = .ok (.getfield 18, 3) := by decide +kernel
theorem dX1_append_32 : decode cX1_append 32 = .ok (.iconst 1, 1) := by decide +kernel
theorem dX1_append_33 : decode cX1_append 33 = .ok (.iadd, 1) := by decide +kernel
theorem dX1_append_34 : decode cX1_append 34 = .ok (.putfield 18, 3) := by decide +kernel
theorem dX1_append_37 : decode cX1_append 37 = .ok (.return_, 1) := by decide +kernel
theorem dX1_clear_0 : decode cX1_clear 0 = .ok (.aload_n 0, 1) := by decide +kernel
theorem dX1_clear_1 : decode cX1_clear 1 = .ok (.iconst 0, 1) := by decide +kernel
theorem dX1_clear_2 : decode cX1_clear 2 = .ok (.putfield 18, 3) := by decide +kernel
theorem dX1_clear_5 : decode cX1_clear 5 = .ok (.return_, 1) := by decide +kernel
theorem dX1_copyOf_0 : decode cX1_copyOf 0 = .ok (.aload_n 0, 1) := by decide +kernel
theorem dX1_copyOf_1 : decode cX1_copyOf 1 = .ok (.aload_n 1, 1) := by decide +kernel
theorem dX1_copyOf_2 : decode cX1_copyOf 2 = .ok (.getfield 18, 3) := by decide +kernel
theorem dX1_copyOf_5 : decode cX1_copyOf 5 = .ok (.putfield 18, 3) := by decide +kernel
theorem dX1_copyOf_8 : decode cX1_copyOf 8 = .ok (.aload_n 1, 1) := by decide +kernel
theorem dX1_copyOf_9 : decode cX1_copyOf 9 = .ok (.getfield 9, 3) := by decide +kernel
theorem dX1_copyOf_12 : decode cX1_copyOf 12 = .ok (.iconst 0, 1) := by decide +kernel
theorem dX1_copyOf_13 : decode cX1_copyOf 13 = .ok (.aload_n 0, 1) := by decide +kernel
theorem dX1_copyOf_14 : decode cX1_copyOf 14 = .ok (.getfield 9, 3) := by decide +kernel
theorem dX1_copyOf_17 : decode cX1_copyOf 17 = .ok (.iconst 0, 1) := by decide +kernel
theorem dX1_copyOf_18 : decode cX1_copyOf 18 = .ok (.aload_n 0, 1) := by decide +kernel
theorem dX1_copyOf_19 : decode cX1_copyOf 19 = .ok (.getfield 18, 3) := by decide +kernel
theorem dX1_copyOf_22 : decode cX1_copyOf 22 = .ok (.invokestatic 26, 3) := by decide +kernel
theorem dX1_copyOf_25 : decode cX1_copyOf 25 = .ok (.aload_n 1, 1) := by decide +kernel
theorem dX1_copyOf_26 : decode cX1_copyOf 26 = .ok (.getfield 15, 3) := by decide +kernel
theorem dX1_copyOf_29 : decode cX1_copyOf 29 = .ok (.iconst 0, 1) := by decide +kernel
theorem dX1_copyOf_30 : decode cX1_copyOf 30 = .ok (.aload_n 0, 1) := by decide +kernel
theorem dX1_copyOf_31 : decode cX1_copyOf 31 = .ok (.getfield 15, 3) := by decide +kernel
theorem dX1_copyOf_34 : decode cX1_copyOf 34 = .ok (.iconst 0, 1) := by decide +kernel
theorem dX1_copyOf_35 : decode cX1_copyOf 35 = .ok (.aload_n 0, 1) := by decide +kernel
theorem dX1_copyOf_36 : decode cX1_copyOf 36 = .ok (.getfield 18, 3) := by decide +kernel
theorem dX1_copyOf_39 : decode cX1_copyOf 39 = .ok (.invokestatic 26, 3) := by decide +kernel
theorem dX1_copyOf_42 : decode cX1_copyOf 42 = .ok (.return_, 1) := by decide +kernel
theorem dX1_along_0 : decode cX1_along 0 = .ok (.iload_n 1, 1) := by decide +kernel
theorem dX1_along_1 : decode cX1_along 1 = .ok (.ifCond .ne 10, 3) := by decide +kernel
theorem dX1_along_4 : decode cX1_along 4 = .ok (.aload_n 0, 1) := by decide +kernel
theorem dX1_along_5 : decode cX1_along 5 = .ok (.getfield 9, 3) := by decide +kernel
theorem dX1_along_8 : decode cX1_along 8 = .ok (.goto 7, 3) := by decide +kernel
theorem dX1_along_11 : decode cX1_along 11 = .ok (.aload_n 0, 1) := by decide +kernel
theorem dX1_along_12 : decode cX1_along 12 = .ok (.getfield 15, 3) := by decide +kernel
theorem dX1_along_15 : decode cX1_along 15 = .ok (.areturn, 1) := by decide +kernel
theorem dX1_after_0 : decode cX1_after 0 = .ok (.iload_n 1, 1) := by decide +kernel
theorem dX1_after_1 : decode cX1_after 1 = .ok (.iconst 1, 1) := by decide +kernel
theorem dX1_after_2 : decode cX1_after 2 = .ok (.iadd, 1) := by decide +kernel
theorem dX1_after_3 : decode cX1_after 3 = .ok (.aload_n 0, 1) := by decide +kernel
theorem dX1_after_4 : decode cX1_after 4 = .ok (.getfield 18, 3) := by decide +kernel
theorem dX1_after_7 : decode cX1_after 7 = .ok (.if_icmp .ge 9, 3) := by decide +kernel
theorem dX1_after_10 : decode cX1_after 10 = .ok (.iload_n 1, 1) := by decide +kernel
theorem dX1_after_11 : decode cX1_after 11 = .ok (.iconst 1, 1) := by decide +kernel
theorem dX1_after_12 : decode cX1_after 12 = .ok (.iadd, 1) := by decide +kernel
theorem dX1_after_13 : decode cX1_after 13 = .ok (.goto 4, 3) := by decide +kernel
theorem dX1_after_16 : decode cX1_after 16 = .ok (.iconst 0, 1) := by decide +kernel
theorem dX1_after_17 : decode cX1_after 17 = .ok (.ireturn, 1) := by decide +kernel
theorem dX1_before_0 : decode cX1_before 0 = .ok (.iload_n 1, 1) := by decide +kernel
theorem dX1_before_1 : decode cX1_before 1 = .ok (.ifCond .le 9, 3) := by decide +kernel
theorem dX1_before_4 : decode cX1_before 4 = .ok (.iload_n 1, 1) := by decide +kernel
theorem dX1_before_5 : decode cX1_before 5 = .ok (.iconst 1, 1) := by decide +kernel
theorem dX1_before_6 : decode cX1_before 6 = .ok (.isub, 1) := by decide +kernel
theorem dX1_before_7 : decode cX1_before 7 = .ok (.goto 9, 3) := by decide +kernel
theorem dX1_before_10 : decode cX1_before 10 = .ok (.aload_n 0, 1) := by decide +kernel
theorem dX1_before_11 : decode cX1_before 11 = .ok (.getfield 18, 3) := by decide +kernel
theorem dX1_before_14 : decode cX1_before 14 = .ok (.iconst 1, 1) := by decide +kernel
theorem dX1_before_15 : decode cX1_before 15 = .ok (.isub, 1) := by decide +kernel
theorem dX1_before_16 : decode cX1_before 16 = .ok (.ireturn, 1) := by decide +kernel
theorem dX1_turn_0 : decode cX1_turn 0 = .ok (.aload_n 0, 1) := by decide +kernel
theorem dX1_turn_1 : decode cX1_turn 1 = .ok (.getfield 9, 3) := by decide +kernel
theorem dX1_turn_4 : decode cX1_turn 4 = .ok (.iload_n 2, 1) := by decide +kernel
theorem dX1_turn_5 : decode cX1_turn 5 = .ok (.iaload, 1) := by decide +kernel
theorem dX1_turn_6 : decode cX1_turn 6 = .ok (.aload_n 0, 1) := by decide +kernel
theorem dX1_turn_7 : decode cX1_turn 7 = .ok (.getfield 9, 3) := by decide +kernel
theorem dX1_turn_10 : decode cX1_turn 10 = .ok (.iload_n 1, 1) := by decide +kernel
theorem dX1_turn_11 : decode cX1_turn 11 = .ok (.iaload, 1) := by decide +kernel
theorem dX1_turn_12 : decode cX1_turn 12 = .ok (.isub, 1) := by decide +kernel
theorem dX1_turn_13 : decode cX1_turn 13 = .ok (.aload_n 0, 1) := by decide +kernel
theorem dX1_turn_14 : decode cX1_turn 14 = .ok (.getfield 15, 3) := by decide +kernel
theorem dX1_turn_17 : decode cX1_turn 17 = .ok (.iload_n 3, 1) := by decide +kernel
theorem dX1_turn_18 : decode cX1_turn 18 = .ok (.iaload, 1) := by decide +kernel
theorem dX1_turn_19 : decode cX1_turn 19 = .ok (.aload_n 0, 1) := by decide +kernel
theorem dX1_turn_20 : decode cX1_turn 20 = .ok (.getfield 15, 3) := by decide +kernel
theorem dX1_turn_23 : decode cX1_turn 23 = .ok (.iload_n 1, 1) := by decide +kernel
theorem dX1_turn_24 : decode cX1_turn 24 = .ok (.iaload, 1) := by decide +kernel
theorem dX1_turn_25 : decode cX1_turn 25 = .ok (.isub, 1) := by decide +kernel
theorem dX1_turn_26 : decode cX1_turn 26 = .ok (.imul, 1) := by decide +kernel
theorem dX1_turn_27 : decode cX1_turn 27 = .ok (.aload_n 0, 1) := by decide +kernel
theorem dX1_turn_28 : decode cX1_turn 28 = .ok (.getfield 15, 3) := by decide +kernel
theorem dX1_turn_31 : decode cX1_turn 31 = .ok (.iload_n 2, 1) := by decide +kernel
theorem dX1_turn_32 : decode cX1_turn 32 = .ok (.iaload, 1) := by decide +kernel
theorem dX1_turn_33 : decode cX1_turn 33 = .ok (.aload_n 0, 1) := by decide +kernel
theorem dX1_turn_34 : decode cX1_turn 34 = .ok (.getfield 15, 3) := by decide +kernel
theorem dX1_turn_37 : decode cX1_turn 37 = .ok (.iload_n 1, 1) := by decide +kernel
theorem dX1_turn_38 : decode cX1_turn 38 = .ok (.iaload, 1) := by decide +kernel
theorem dX1_turn_39 : decode cX1_turn 39 = .ok (.isub, 1) := by decide +kernel
theorem dX1_turn_40 : decode cX1_turn 40 = .ok (.aload_n 0, 1) := by decide +kernel
theorem dX1_turn_41 : decode cX1_turn 41 = .ok (.getfield 9, 3) := by decide +kernel
theorem dX1_turn_44 : decode cX1_turn 44 = .ok (.iload_n 3, 1) := by decide +kernel
theorem dX1_turn_45 : decode cX1_turn 45 = .ok (.iaload, 1) := by decide +kernel
theorem dX1_turn_46 : decode cX1_turn 46 = .ok (.aload_n 0, 1) := by decide +kernel
theorem dX1_turn_47 : decode cX1_turn 47 = .ok (.getfield 9, 3) := by decide +kernel
theorem dX1_turn_50 : decode cX1_turn 50 = .ok (.iload_n 1, 1) := by decide +kernel
theorem dX1_turn_51 : decode cX1_turn 51 = .ok (.iaload, 1) := by decide +kernel
theorem dX1_turn_52 : decode cX1_turn 52 = .ok (.isub, 1) := by decide +kernel
theorem dX1_turn_53 : decode cX1_turn 53 = .ok (.imul, 1) := by decide +kernel
theorem dX1_turn_54 : decode cX1_turn 54 = .ok (.isub, 1) := by decide +kernel
theorem dX1_turn_55 : decode cX1_turn 55 = .ok (.ireturn, 1) := by decide +kernel
theorem dX1_advance_0 : decode cX1_advance 0 = .ok (.aload_n 0, 1) := by decide +kernel
theorem dX1_advance_1 : decode cX1_advance 1 = .ok (.getfield 9, 3) := by decide +kernel
theorem dX1_advance_4 : decode cX1_advance 4 = .ok (.iload_n 2, 1) := by decide +kernel
theorem dX1_advance_5 : decode cX1_advance 5 = .ok (.iaload, 1) := by decide +kernel
theorem dX1_advance_6 : decode cX1_advance 6 = .ok (.aload_n 0, 1) := by decide +kernel
theorem dX1_advance_7 : decode cX1_advance 7 = .ok (.getfield 9, 3) := by decide +kernel
theorem dX1_advance_10 : decode cX1_advance 10 = .ok (.iload_n 1, 1) := by decide +kernel
theorem dX1_advance_11 : decode cX1_advance 11 = .ok (.iaload, 1) := by decide +kernel
theorem dX1_advance_12 : decode cX1_advance 12 = .ok (.isub, 1) := by decide +kernel
theorem dX1_advance_13 : decode cX1_advance 13 = .ok (.aload_n 0, 1) := by decide +kernel
theorem dX1_advance_14 : decode cX1_advance 14 = .ok (.getfield 9, 3) := by decide +kernel
theorem dX1_advance_17 : decode cX1_advance 17 = .ok (.iload_n 3, 1) := by decide +kernel
theorem dX1_advance_18 : decode cX1_advance 18 = .ok (.iaload, 1) := by decide +kernel
theorem dX1_advance_19 : decode cX1_advance 19 = .ok (.aload_n 0, 1) := by decide +kernel
theorem dX1_advance_20 : decode cX1_advance 20 = .ok (.getfield 9, 3) := by decide +kernel
theorem dX1_advance_23 : decode cX1_advance 23 = .ok (.iload_n 2, 1) := by decide +kernel
theorem dX1_advance_24 : decode cX1_advance 24 = .ok (.iaload, 1) := by decide +kernel
theorem dX1_advance_25 : decode cX1_advance 25 = .ok (.isub, 1) := by decide +kernel
theorem dX1_advance_26 : decode cX1_advance 26 = .ok (.imul, 1) := by decide +kernel
theorem dX1_advance_27 : decode cX1_advance 27 = .ok (.aload_n 0, 1) := by decide +kernel
theorem dX1_advance_28 : decode cX1_advance 28 = .ok (.getfield 15, 3) := by decide +kernel
theorem dX1_advance_31 : decode cX1_advance 31 = .ok (.iload_n 2, 1) := by decide +kernel
theorem dX1_advance_32 : decode cX1_advance 32 = .ok (.iaload, 1) := by decide +kernel
theorem dX1_advance_33 : decode cX1_advance 33 = .ok (.aload_n 0, 1) := by decide +kernel
theorem dX1_advance_34 : decode cX1_advance 34 = .ok (.getfield 15, 3) := by decide +kernel
theorem dX1_advance_37 : decode cX1_advance 37 = .ok (.iload_n 1, 1) := by decide +kernel
theorem dX1_advance_38 : decode cX1_advance 38 = .ok (.iaload, 1) := by decide +kernel
theorem dX1_advance_39 : decode cX1_advance 39 = .ok (.isub, 1) := by decide +kernel
theorem dX1_advance_40 : decode cX1_advance 40 = .ok (.aload_n 0, 1) := by decide +kernel
theorem dX1_advance_41 : decode cX1_advance 41 = .ok (.getfield 15, 3) := by decide +kernel
theorem dX1_advance_44 : decode cX1_advance 44 = .ok (.iload_n 3, 1) := by decide +kernel
theorem dX1_advance_45 : decode cX1_advance 45 = .ok (.iaload, 1) := by decide +kernel
theorem dX1_advance_46 : decode cX1_advance 46 = .ok (.aload_n 0, 1) := by decide +kernel
theorem dX1_advance_47 : decode cX1_advance 47 = .ok (.getfield 15, 3) := by decide +kernel
theorem dX1_advance_50 : decode cX1_advance 50 = .ok (.iload_n 2, 1) := by decide +kernel
theorem dX1_advance_51 : decode cX1_advance 51 = .ok (.iaload, 1) := by decide +kernel
theorem dX1_advance_52 : decode cX1_advance 52 = .ok (.isub, 1) := by decide +kernel
theorem dX1_advance_53 : decode cX1_advance 53 = .ok (.imul, 1) := by decide +kernel
theorem dX1_advance_54 : decode cX1_advance 54 = .ok (.iadd, 1) := by decide +kernel
theorem dX1_advance_55 : decode cX1_advance 55 = .ok (.ireturn, 1) := by decide +kernel
theorem dX1_squaredLength_0 : decode cX1_squaredLength 0 = .ok (.aload_n 0, 1) := by decide +kernel
theorem dX1_squaredLength_1 : decode cX1_squaredLength 1 = .ok (.getfield 9, 3) := by decide +kernel
theorem dX1_squaredLength_4 : decode cX1_squaredLength 4 = .ok (.iload_n 2, 1) := by decide +kernel
theorem dX1_squaredLength_5 : decode cX1_squaredLength 5 = .ok (.iaload, 1) := by decide +kernel
theorem dX1_squaredLength_6 : decode cX1_squaredLength 6 = .ok (.aload_n 0, 1) := by decide +kernel
theorem dX1_squaredLength_7 : decode cX1_squaredLength 7 = .ok (.getfield 9, 3) := by decide +kernel
theorem dX1_squaredLength_10 : decode cX1_squaredLength 10 = .ok (.iload_n 1, 1) := by decide +kernel
theorem dX1_squaredLength_11 : decode cX1_squaredLength 11 = .ok (.iaload, 1) := by decide +kernel
theorem dX1_squaredLength_12 : decode cX1_squaredLength 12 = .ok (.isub, 1) := by decide +kernel
theorem dX1_squaredLength_13 : decode cX1_squaredLength 13 = .ok (.istore_n 3, 1) := by decide +kernel
theorem dX1_squaredLength_14 : decode cX1_squaredLength 14 = .ok (.aload_n 0, 1) := by decide +kernel
theorem dX1_squaredLength_15 : decode cX1_squaredLength 15 = .ok (.getfield 15, 3) := by decide +kernel
theorem dX1_squaredLength_18 : decode cX1_squaredLength 18 = .ok (.iload_n 2, 1) := by decide +kernel
theorem dX1_squaredLength_19 : decode cX1_squaredLength 19 = .ok (.iaload, 1) := by decide +kernel
theorem dX1_squaredLength_20 : decode cX1_squaredLength 20 = .ok (.aload_n 0, 1) := by decide +kernel
theorem dX1_squaredLength_21 : decode cX1_squaredLength 21 = .ok (.getfield 15, 3) := by decide +kernel
theorem dX1_squaredLength_24 : decode cX1_squaredLength 24 = .ok (.iload_n 1, 1) := by decide +kernel
theorem dX1_squaredLength_25 : decode cX1_squaredLength 25 = .ok (.iaload, 1) := by decide +kernel
theorem dX1_squaredLength_26 : decode cX1_squaredLength 26 = .ok (.isub, 1) := by decide +kernel
theorem dX1_squaredLength_27 : decode cX1_squaredLength 27 = .ok (.istore 4, 2) := by decide +kernel
theorem dX1_squaredLength_29 : decode cX1_squaredLength 29 = .ok (.iload_n 3, 1) := by decide +kernel
theorem dX1_squaredLength_30 : decode cX1_squaredLength 30 = .ok (.iload_n 3, 1) := by decide +kernel
theorem dX1_squaredLength_31 : decode cX1_squaredLength 31 = .ok (.imul, 1) := by decide +kernel
theorem dX1_squaredLength_32 : decode cX1_squaredLength 32 = .ok (.iload 4, 2) := by decide +kernel
theorem dX1_squaredLength_34 : decode cX1_squaredLength 34 = .ok (.iload 4, 2) := by decide +kernel
theorem dX1_squaredLength_36 : decode cX1_squaredLength 36 = .ok (.imul, 1) := by decide +kernel
theorem dX1_squaredLength_37 : decode cX1_squaredLength 37 = .ok (.iadd, 1) := by decide +kernel
theorem dX1_squaredLength_38 : decode cX1_squaredLength 38 = .ok (.ireturn, 1) := by decide +kernel
set_option maxRecDepth 20000 in
theorem ggX1_meet_X1_rangesMeet : GoodIn wsX1_meet wsX1_rangesMeet := goodIn_r _ [6, 7, 8, 9, 10, 11, 12, 13] (by decide +kernel) (by decide +kernel)
set_option maxRecDepth 20000 in
theorem gX1_meet_X1_rangesMeet : GoodIn wsX1_meet (va_wsS RX1 32 yX1_rangesMeet wsX1_rangesMeet) := goodIn_app (goodIn_of _ (by decide +kernel)) ggX1_meet_X1_rangesMeet
set_option maxRecDepth 20000 in
theorem ggX1_meet_X1_straddles : GoodIn wsX1_meet wsX1_straddles := goodIn_r _ [17, 18, 19, 20, 5, 21, 1, 2, 22, 23, 24] (by decide +kernel) (by decide +kernel)
set_option maxRecDepth 20000 in
theorem gX1_meet_X1_straddles : GoodIn wsX1_meet (wsV RX1 36 RX1 yX1_straddles wsX1_straddles) := goodIn_app (goodIn_of _ (by decide +kernel)) ggX1_meet_X1_straddles
theorem dX1_meet_0 : decode cX1_meet 0 = .ok (.aload_n 0, 1) := by decide +kernel
theorem dX1_meet_1 : decode cX1_meet 1 = .ok (.getfield 9, 3) := by decide +kernel
theorem dX1_meet_4 : decode cX1_meet 4 = .ok (.iload_n 1, 1) := by decide +kernel
theorem dX1_meet_5 : decode cX1_meet 5 = .ok (.iload_n 2, 1) := by decide +kernel
theorem dX1_meet_6 : decode cX1_meet 6 = .ok (.iload_n 3, 1) := by decide +kernel
theorem dX1_meet_7 : decode cX1_meet 7 = .ok (.iload 4, 2) := by decide +kernel
theorem dX1_meet_9 : decode cX1_meet 9 = .ok (.invokestatic 32, 3) := by decide +kernel
theorem dX1_meet_12 : decode cX1_meet 12 = .ok (.ifCond .eq 46, 3) := by decide +kernel
theorem dX1_meet_15 : decode cX1_meet 15 = .ok (.aload_n 0, 1) := by decide +kernel
theorem dX1_meet_16 : decode cX1_meet 16 = .ok (.getfield 15, 3) := by decide +kernel
theorem dX1_meet_19 : decode cX1_meet 19 = .ok (.iload_n 1, 1) := by decide +kernel
theorem dX1_meet_20 : decode cX1_meet 20 = .ok (.iload_n 2, 1) := by decide +kernel
theorem dX1_meet_21 : decode cX1_meet 21 = .ok (.iload_n 3, 1) := by decide +kernel
theorem dX1_meet_22 : decode cX1_meet 22 = .ok (.iload 4, 2) := by decide +kernel
theorem dX1_meet_24 : decode cX1_meet 24 = .ok (.invokestatic 32, 3) := by decide +kernel
theorem dX1_meet_27 : decode cX1_meet 27 = .ok (.ifCond .eq 31, 3) := by decide +kernel
theorem dX1_meet_30 : decode cX1_meet 30 = .ok (.aload_n 0, 1) := by decide +kernel
theorem dX1_meet_31 : decode cX1_meet 31 = .ok (.iload_n 1, 1) := by decide +kernel
theorem dX1_meet_32 : decode cX1_meet 32 = .ok (.iload_n 2, 1) := by decide +kernel
theorem dX1_meet_33 : decode cX1_meet 33 = .ok (.iload_n 3, 1) := by decide +kernel
theorem dX1_meet_34 : decode cX1_meet 34 = .ok (.iload 4, 2) := by decide +kernel
theorem dX1_meet_36 : decode cX1_meet 36 = .ok (.invokevirtual 36, 3) := by decide +kernel
theorem dX1_meet_39 : decode cX1_meet 39 = .ok (.ifCond .eq 19, 3) := by decide +kernel
theorem dX1_meet_42 : decode cX1_meet 42 = .ok (.aload_n 0, 1) := by decide +kernel
theorem dX1_meet_43 : decode cX1_meet 43 = .ok (.iload_n 3, 1) := by decide +kernel
theorem dX1_meet_44 : decode cX1_meet 44 = .ok (.iload 4, 2) := by decide +kernel
theorem dX1_meet_46 : decode cX1_meet 46 = .ok (.iload_n 1, 1) := by decide +kernel
theorem dX1_meet_47 : decode cX1_meet 47 = .ok (.iload_n 2, 1) := by decide +kernel
theorem dX1_meet_48 : decode cX1_meet 48 = .ok (.invokevirtual 36, 3) := by decide +kernel
theorem dX1_meet_51 : decode cX1_meet 51 = .ok (.ifCond .eq 7, 3) := by decide +kernel
theorem dX1_meet_54 : decode cX1_meet 54 = .ok (.iconst 1, 1) := by decide +kernel
theorem dX1_meet_55 : decode cX1_meet 55 = .ok (.goto 4, 3) := by decide +kernel
theorem dX1_meet_58 : decode cX1_meet 58 = .ok (.iconst 0, 1) := by decide +kernel
theorem dX1_meet_59 : decode cX1_meet 59 = .ok (.ireturn, 1) := by decide +kernel
theorem dX1_rangesMeet_0 : decode cX1_rangesMeet 0 = .ok (.aload_n 0, 1) := by decide +kernel
theorem dX1_rangesMeet_1 : decode cX1_rangesMeet 1 = .ok (.iload_n 1, 1) := by decide +kernel
theorem dX1_rangesMeet_2 : decode cX1_rangesMeet 2 = .ok (.iaload, 1) := by decide +kernel
theorem dX1_rangesMeet_3 : decode cX1_rangesMeet 3 = .ok (.aload_n 0, 1) := by decide +kernel
theorem dX1_rangesMeet_4 : decode cX1_rangesMeet 4 = .ok (.iload_n 2, 1) := by decide +kernel
theorem dX1_rangesMeet_5 : decode cX1_rangesMeet 5 = .ok (.iaload, 1) := by decide +kernel
theorem dX1_rangesMeet_6 : decode cX1_rangesMeet 6 = .ok (.invokestatic 40, 3) := by decide +kernel
theorem dX1_rangesMeet_9 : decode cX1_rangesMeet 9 = .ok (.aload_n 0, 1) := by decide +kernel
theorem dX1_rangesMeet_10 : decode cX1_rangesMeet 10 = .ok (.iload_n 3, 1) := by decide +kernel
theorem dX1_rangesMeet_11 : decode cX1_rangesMeet 11 = .ok (.iaload, 1) := by decide +kernel
theorem dX1_rangesMeet_12 : decode cX1_rangesMeet 12 = .ok (.aload_n 0, 1) := by decide +kernel
theorem dX1_rangesMeet_13 : decode cX1_rangesMeet 13 = .ok (.iload 4, 2) := by decide +kernel
theorem dX1_rangesMeet_15 : decode cX1_rangesMeet 15 = .ok (.iaload, 1) := by decide +kernel
theorem dX1_rangesMeet_16 : decode cX1_rangesMeet 16 = .ok (.invokestatic 46, 3) := by decide +kernel
theorem dX1_rangesMeet_19 : decode cX1_rangesMeet 19 = .ok (.if_icmp .lt 29, 3) := by decide +kernel
theorem dX1_rangesMeet_22 : decode cX1_rangesMeet 22 = .ok (.aload_n 0, 1) := by decide +kernel
theorem dX1_rangesMeet_23 : decode cX1_rangesMeet 23 = .ok (.iload_n 3, 1) := by decide +kernel
theorem dX1_rangesMeet_24 : decode cX1_rangesMeet 24 = .ok (.iaload, 1) := by decide +kernel
theorem dX1_rangesMeet_25 : decode cX1_rangesMeet 25 = .ok (.aload_n 0, 1) := by decide +kernel
theorem dX1_rangesMeet_26 : decode cX1_rangesMeet 26 = .ok (.iload 4, 2) := by decide +kernel
theorem dX1_rangesMeet_28 : decode cX1_rangesMeet 28 = .ok (.iaload, 1) := by decide +kernel
theorem dX1_rangesMeet_29 : decode cX1_rangesMeet 29 = .ok (.invokestatic 40, 3) := by decide +kernel
theorem dX1_rangesMeet_32 : decode cX1_rangesMeet 32 = .ok (.aload_n 0, 1) := by decide +kernel
theorem dX1_rangesMeet_33 : decode cX1_rangesMeet 33 = .ok (.iload_n 1, 1) := by decide +kernel
theorem dX1_rangesMeet_34 : decode cX1_rangesMeet 34 = .ok (.iaload, 1) := by decide +kernel
theorem dX1_rangesMeet_35 : decode cX1_rangesMeet 35 = .ok (.aload_n 0, 1) := by decide +kernel
theorem dX1_rangesMeet_36 : decode cX1_rangesMeet 36 = .ok (.iload_n 2, 1) := by decide +kernel
theorem dX1_rangesMeet_37 : decode cX1_rangesMeet 37 = .ok (.iaload, 1) := by decide +kernel
theorem dX1_rangesMeet_38 : decode cX1_rangesMeet 38 = .ok (.invokestatic 46, 3) := by decide +kernel
theorem dX1_rangesMeet_41 : decode cX1_rangesMeet 41 = .ok (.if_icmp .lt 7, 3) := by decide +kernel
theorem dX1_rangesMeet_44 : decode cX1_rangesMeet 44 = .ok (.iconst 1, 1) := by decide +kernel
theorem dX1_rangesMeet_45 : decode cX1_rangesMeet 45 = .ok (.goto 4, 3) := by decide +kernel
theorem dX1_rangesMeet_48 : decode cX1_rangesMeet 48 = .ok (.iconst 0, 1) := by decide +kernel
theorem dX1_rangesMeet_49 : decode cX1_rangesMeet 49 = .ok (.ireturn, 1) := by decide +kernel
set_option maxRecDepth 20000 in
theorem ggX1_straddles_X1_turn : GoodIn wsX1_straddles wsX1_turn := goodIn_r _ [5, 6, 7, 8, 9, 10] (by decide +kernel) (by decide +kernel)
set_option maxRecDepth 20000 in
theorem gX1_straddles_X1_turn : GoodIn wsX1_straddles (wsV RX1 49 RX1 yX1_turn wsX1_turn) := goodIn_app (goodIn_of _ (by decide +kernel)) ggX1_straddles_X1_turn
theorem dX1_straddles_0 : decode cX1_straddles 0 = .ok (.aload_n 0, 1) := by decide +kernel
theorem dX1_straddles_1 : decode cX1_straddles 1 = .ok (.iload_n 1, 1) := by decide +kernel
theorem dX1_straddles_2 : decode cX1_straddles 2 = .ok (.iload_n 2, 1) := by decide +kernel
theorem dX1_straddles_3 : decode cX1_straddles 3 = .ok (.iload_n 3, 1) := by decide +kernel
theorem dX1_straddles_4 : decode cX1_straddles 4 = .ok (.invokevirtual 49, 3) := by decide +kernel
theorem dX1_straddles_7 : decode cX1_straddles 7 = .ok (.i2l, 1) := by decide +kernel
theorem dX1_straddles_8 : decode cX1_straddles 8 = .ok (.aload_n 0, 1) := by decide +kernel
theorem dX1_straddles_9 : decode cX1_straddles 9 = .ok (.iload_n 1, 1) := by decide +kernel
theorem dX1_straddles_10 : decode cX1_straddles 10 = .ok (.iload_n 2, 1) := by decide +kernel
theorem dX1_straddles_11 : decode cX1_straddles 11 = .ok (.iload 4, 2) := by decide +kernel
theorem dX1_straddles_13 : decode cX1_straddles 13 = .ok (.invokevirtual 49, 3) := by decide +kernel
theorem dX1_straddles_16 : decode cX1_straddles 16 = .ok (.i2l, 1) := by decide +kernel
theorem dX1_straddles_17 : decode cX1_straddles 17 = .ok (.lmul, 1) := by decide +kernel
theorem dX1_straddles_18 : decode cX1_straddles 18 = .ok (.lconst 0, 1) := by decide +kernel
theorem dX1_straddles_19 : decode cX1_straddles 19 = .ok (.lcmp, 1) := by decide +kernel
theorem dX1_straddles_20 : decode cX1_straddles 20 = .ok (.ifCond .gt 7, 3) := by decide +kernel
theorem dX1_straddles_23 : decode cX1_straddles 23 = .ok (.iconst 1, 1) := by decide +kernel
theorem dX1_straddles_24 : decode cX1_straddles 24 = .ok (.goto 4, 3) := by decide +kernel
theorem dX1_straddles_27 : decode cX1_straddles 27 = .ok (.iconst 0, 1) := by decide +kernel
theorem dX1_straddles_28 : decode cX1_straddles 28 = .ok (.ireturn, 1) := by decide +kernel
