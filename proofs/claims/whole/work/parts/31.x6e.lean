set_option maxRecDepth 20000 in
theorem ggX6_in_X6_isPolygon : GoodIn wsX6_in wsX6_isPolygon := goodIn_r _ [5, 6, 7, 8, 4, 9, 31, 32, 33, 34, 35, 36, 37, 38, 39, 40, 41, 42, 43, 44, 45, 46, 47, 48, 49, 50, 51, 52, 53, 54] (by decide +kernel) (by decide +kernel)
set_option maxRecDepth 20000 in
theorem gX6_in_X6_isPolygon : GoodIn wsX6_in (wsV RX6 102 RX6 yX6_isPolygon wsX6_isPolygon) := goodIn_app (goodIn_of _ (by decide +kernel)) ggX6_in_X6_isPolygon
set_option maxRecDepth 20000 in
theorem ggX6_in_X6_within : GoodIn wsX6_in wsX6_within := goodIn_r _ [9] (by decide +kernel) (by decide +kernel)
set_option maxRecDepth 20000 in
theorem gX6_in_X6_within : GoodIn wsX6_in (va_wsS RX6 69 yX6_within wsX6_within) := goodIn_app (goodIn_of _ (by decide +kernel)) ggX6_in_X6_within
set_option maxRecDepth 20000 in
theorem ggX6_in_X6_lies : GoodIn wsX6_in wsX6_lies := goodIn_r _ [13, 14, 15, 16, 17, 4, 18, 19, 20, 21, 22, 23, 24, 25, 26, 27, 28, 29, 30, 31, 32, 33, 34, 35, 36, 37, 38, 39, 40, 41, 42, 43, 44, 45, 46, 47, 48, 49, 50, 51, 52, 53, 54] (by decide +kernel) (by decide +kernel)
set_option maxRecDepth 20000 in
theorem gX6_in_X6_lies : GoodIn wsX6_in (wsV RX6 126 RX6 yX6_lies wsX6_lies) := goodIn_app (goodIn_of _ (by decide +kernel)) ggX6_in_X6_lies
set_option maxRecDepth 20000 in
theorem ggX6_isSeen_X6_xOf : GoodIn wsX6_isSeen wsX6_xOf := goodIn_r _ [6, 7, 1, 29, 30, 31, 32, 33, 34, 35, 36, 37, 38, 39, 40, 41, 42, 43, 44, 45, 46, 47, 48, 49, 50, 51, 52] (by decide +kernel) (by decide +kernel)
set_option maxRecDepth 20000 in
theorem gX6_isSeen_X6_xOf : GoodIn wsX6_isSeen (wsV RX6 110 RX6 yX6_xOf wsX6_xOf) := goodIn_app (goodIn_of _ (by decide +kernel)) ggX6_isSeen_X6_xOf
set_option maxRecDepth 20000 in
theorem ggX6_isSeen_X6_yOf : GoodIn wsX6_isSeen wsX6_yOf := goodIn_r _ [11, 12, 1, 29, 30, 31, 32, 33, 34, 35, 36, 37, 38, 39, 40, 41, 42, 43, 44, 45, 46, 47, 48, 49, 50, 51, 52] (by decide +kernel) (by decide +kernel)
set_option maxRecDepth 20000 in
theorem gX6_isSeen_X6_yOf : GoodIn wsX6_isSeen (wsV RX6 114 RX6 yX6_yOf wsX6_yOf) := goodIn_app (goodIn_of _ (by decide +kernel)) ggX6_isSeen_X6_yOf
set_option maxRecDepth 20000 in
theorem ggX6_isSeen_X6_meet : GoodIn wsX6_isSeen wsX6_meet := goodIn_r _ [15, 16, 17, 5, 18, 19, 20, 21, 22, 23, 24] (by decide +kernel) (by decide +kernel)
set_option maxRecDepth 20000 in
theorem gX6_isSeen_X6_meet : GoodIn wsX6_isSeen (va_wsS RX6 88 yX6_meet wsX6_meet) := goodIn_app (goodIn_of _ (by decide +kernel)) ggX6_isSeen_X6_meet
set_option maxRecDepth 20000 in
theorem ggX6_isSeen_X6_isBetween : GoodIn wsX6_isSeen wsX6_isBetween := goodIn_r _ [24, 16, 17, 5, 18] (by decide +kernel) (by decide +kernel)
set_option maxRecDepth 20000 in
theorem gX6_isSeen_X6_isBetween : GoodIn wsX6_isSeen (va_wsS RX6 84 yX6_isBetween wsX6_isBetween) := goodIn_app (goodIn_of _ (by decide +kernel)) ggX6_isSeen_X6_isBetween
set_option maxRecDepth 20000 in
theorem ggX6_isSeen_X6_lies : GoodIn wsX6_isSeen wsX6_lies := goodIn_r _ [28, 1, 2, 3, 4, 5, 6, 7, 8, 9, 10, 11, 12, 22, 23, 24, 16, 17, 18, 29, 30, 31, 32, 33, 34, 35, 36, 37, 38, 39, 40, 41, 42, 43, 44, 45, 46, 47, 48, 49, 50, 51, 52] (by decide +kernel) (by decide +kernel)
set_option maxRecDepth 20000 in
theorem gX6_isSeen_X6_lies : GoodIn wsX6_isSeen (wsV RX6 126 RX6 yX6_lies wsX6_lies) := goodIn_app (goodIn_of _ (by decide +kernel)) ggX6_isSeen_X6_lies
set_option maxRecDepth 20000 in
theorem ggX6_sight_X6_isNear : GoodIn wsX6_sight wsX6_isNear := goodIn_r _ [5, 6, 37, 38, 39, 40, 41, 42, 43, 44, 45, 46, 47, 48, 49, 50, 51, 52, 53, 54, 55, 56, 57, 58, 59, 60] (by decide +kernel) (by decide +kernel)
set_option maxRecDepth 20000 in
theorem gX6_sight_X6_isNear : GoodIn wsX6_sight (wsV RX6 130 RX6 yX6_isNear wsX6_isNear) := goodIn_app (goodIn_of _ (by decide +kernel)) ggX6_sight_X6_isNear
set_option maxRecDepth 20000 in
theorem ggX6_sight_X6_isSeen : GoodIn wsX6_sight wsX6_isSeen := goodIn_r _ [10, 6, 11, 12, 13, 4, 14, 15, 16, 17, 18, 19, 20, 21, 22, 23, 24, 25, 26, 27, 28, 29, 30, 31, 32, 33, 34, 35, 36, 37, 38, 39, 40, 41, 42, 43, 44, 45, 46, 47, 48, 49, 50, 51, 52, 53, 54, 55, 56, 57, 58, 59, 60] (by decide +kernel) (by decide +kernel)
set_option maxRecDepth 20000 in
theorem gX6_sight_X6_isSeen : GoodIn wsX6_sight (wsV RX6 133 RX6 yX6_isSeen wsX6_isSeen) := goodIn_app (goodIn_of _ (by decide +kernel)) ggX6_sight_X6_isSeen
set_option maxRecDepth 20000 in
theorem ggX6_sees_X6_isCorner : GoodIn wsX6_sees wsX6_isCorner := goodIn_r _ [5, 6, 7, 8, 9, 4, 10, 11, 12, 13, 14, 53, 54, 55, 56, 57, 58, 59, 60, 61, 62, 63, 64, 65, 66, 67, 68, 69, 70, 71, 72, 73, 74, 75, 76] (by decide +kernel) (by decide +kernel)
set_option maxRecDepth 20000 in
theorem gX6_sees_X6_isCorner : GoodIn wsX6_sees (wsV RX6 106 RX6 yX6_isCorner wsX6_isCorner) := goodIn_app (goodIn_of _ (by decide +kernel)) ggX6_sees_X6_isCorner
set_option maxRecDepth 20000 in
theorem ggX6_sees_X6_sight : GoodIn wsX6_sees wsX6_sight := goodIn_r _ [18, 19, 20, 21, 4, 22, 6, 23, 24, 25, 26, 27, 28, 29, 30, 31, 32, 33, 34, 35, 36, 37, 38, 39, 40, 41, 42, 43, 44, 45, 46, 47, 48, 49, 50, 51, 52, 53, 54, 55, 56, 57, 58, 59, 60, 61, 62, 63, 64, 65, 66, 67, 68, 69, 70, 71, 72, 73, 74, 75, 76] (by decide +kernel) (by decide +kernel)
set_option maxRecDepth 20000 in
theorem gX6_sees_X6_sight : GoodIn wsX6_sees (wsV RX6 136 RX6 yX6_sight wsX6_sight) := goodIn_app (goodIn_of _ (by decide +kernel)) ggX6_sees_X6_sight
set_option maxRecDepth 20000 in
theorem ggX6_findFar_X6_sight : GoodIn wsX6_findFar wsX6_sight := goodIn_r _ [7, 8, 9, 10, 6, 11, 2, 12, 13, 14, 15, 16, 17, 18, 19, 20, 21, 22, 23, 24, 25, 26, 27, 28, 29, 30, 31, 32, 33, 34, 35, 36, 37, 38, 39, 40, 41, 42, 43, 44, 45, 46, 47, 48, 49, 50, 51, 52, 53, 54, 55, 56, 57, 58, 59, 60, 61, 62, 63, 64, 65] (by decide +kernel) (by decide +kernel)
set_option maxRecDepth 20000 in
theorem gX6_findFar_X6_sight : GoodIn wsX6_findFar (wsV RX6 136 RX6 yX6_sight wsX6_sight) := goodIn_app (goodIn_of _ (by decide +kernel)) ggX6_findFar_X6_sight
set_option maxRecDepth 20000 in
theorem ggX6_way_X6_isCorner : GoodIn wsX6_way wsX6_isCorner := goodIn_r _ [6, 7, 8, 9, 10, 5, 11, 12, 13, 14, 15, 58, 59, 60, 61, 62, 63, 64, 65, 66, 67, 68, 69, 70, 71, 72, 73, 74, 75, 76, 77, 78, 79, 80, 81] (by decide +kernel) (by decide +kernel)
set_option maxRecDepth 20000 in
theorem gX6_way_X6_isCorner : GoodIn wsX6_way (wsV RX6 106 RX6 yX6_isCorner wsX6_isCorner) := goodIn_app (goodIn_of _ (by decide +kernel)) ggX6_way_X6_isCorner
set_option maxRecDepth 20000 in
theorem ggX6_way_X6_findFar : GoodIn wsX6_way wsX6_findFar := goodIn_r _ [19, 1, 7, 20, 21, 22, 5, 23, 24, 25, 26, 27, 28, 29, 30, 31, 32, 33, 34, 35, 36, 37, 38, 39, 40, 41, 42, 43, 44, 45, 46, 47, 48, 49, 50, 51, 52, 53, 54, 55, 56, 57, 58, 59, 60, 61, 62, 63, 64, 65, 66, 67, 68, 69, 70, 71, 72, 73, 74, 75, 76, 77, 78, 79, 80, 81] (by decide +kernel) (by decide +kernel)
set_option maxRecDepth 20000 in
theorem gX6_way_X6_findFar : GoodIn wsX6_way (wsV RX6 140 RX6 yX6_findFar wsX6_findFar) := goodIn_app (goodIn_of _ (by decide +kernel)) ggX6_way_X6_findFar
set_option maxRecDepth 20000 in
theorem ggX6_step_X6_isCorner : GoodIn wsX6_step wsX6_isCorner := goodIn_r _ [6, 7, 8, 9, 10, 5, 11, 12, 13, 14, 15, 58, 59, 60, 61, 62, 63, 64, 65, 66, 67, 68, 69, 70, 71, 72, 73, 74, 75, 76, 77, 78, 79, 80, 81] (by decide +kernel) (by decide +kernel)
set_option maxRecDepth 20000 in
theorem gX6_step_X6_isCorner : GoodIn wsX6_step (wsV RX6 106 RX6 yX6_isCorner wsX6_isCorner) := goodIn_app (goodIn_of _ (by decide +kernel)) ggX6_step_X6_isCorner
set_option maxRecDepth 20000 in
theorem ggX6_step_X6_findFar : GoodIn wsX6_step wsX6_findFar := goodIn_r _ [19, 1, 7, 20, 21, 22, 5, 23, 24, 25, 26, 27, 28, 29, 30, 31, 32, 33, 34, 35, 36, 37, 38, 39, 40, 41, 42, 43, 44, 45, 46, 47, 48, 49, 50, 51, 52, 53, 54, 55, 56, 57, 58, 59, 60, 61, 62, 63, 64, 65, 66, 67, 68, 69, 70, 71, 72, 73, 74, 75, 76, 77, 78, 79, 80, 81] (by decide +kernel) (by decide +kernel)
set_option maxRecDepth 20000 in
theorem gX6_step_X6_findFar : GoodIn wsX6_step (wsV RX6 140 RX6 yX6_findFar wsX6_findFar) := goodIn_app (goodIn_of _ (by decide +kernel)) ggX6_step_X6_findFar
set_option maxRecDepth 20000 in
theorem ggX6_step_X6_within : GoodIn wsX6_step wsX6_within := goodIn_r _ [15] (by decide +kernel) (by decide +kernel)
set_option maxRecDepth 20000 in
theorem gX6_step_X6_within : GoodIn wsX6_step (va_wsS RX6 69 yX6_within wsX6_within) := goodIn_app (goodIn_of _ (by decide +kernel)) ggX6_step_X6_within
set_option maxRecDepth 20000 in
theorem ggX6_step_X6_sight : GoodIn wsX6_step wsX6_sight := goodIn_r _ [23, 24, 25, 26, 5, 27, 7, 28, 29, 30, 31, 32, 33, 34, 35, 36, 37, 38, 39, 40, 41, 42, 43, 44, 45, 46, 47, 48, 49, 50, 51, 52, 53, 54, 55, 56, 57, 58, 59, 60, 61, 62, 63, 64, 65, 66, 67, 68, 69, 70, 71, 72, 73, 74, 75, 76, 77, 78, 79, 80, 81] (by decide +kernel) (by decide +kernel)
set_option maxRecDepth 20000 in
theorem gX6_step_X6_sight : GoodIn wsX6_step (wsV RX6 136 RX6 yX6_sight wsX6_sight) := goodIn_app (goodIn_of _ (by decide +kernel)) ggX6_step_X6_sight
set_option maxRecDepth 20000 in
theorem ggX6_square_X6_xOf : GoodIn wsX6_square wsX6_xOf := goodIn_r _ [5, 6, 7, 13, 14, 15, 16, 17, 18, 19, 20, 21, 22, 23, 24, 25, 26, 27, 28, 29, 30, 31, 32, 33, 34, 35, 36] (by decide +kernel) (by decide +kernel)
set_option maxRecDepth 20000 in
theorem gX6_square_X6_xOf : GoodIn wsX6_square (wsV RX6 110 RX6 yX6_xOf wsX6_xOf) := goodIn_app (goodIn_of _ (by decide +kernel)) ggX6_square_X6_xOf
