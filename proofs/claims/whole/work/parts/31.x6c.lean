set_option maxRecDepth 20000 in
theorem ggX6_corner_X6_within : GoodIn wsX6_corner wsX6_within := goodIn_r _ [7] (by decide +kernel) (by decide +kernel)
set_option maxRecDepth 20000 in
theorem gX6_corner_X6_within : GoodIn wsX6_corner (va_wsS RX6 69 yX6_within wsX6_within) := goodIn_app (goodIn_of _ (by decide +kernel)) ggX6_corner_X6_within
set_option maxRecDepth 20000 in
theorem ggX6_isBetween_X6_turn : GoodIn wsX6_isBetween wsX6_turn := goodIn_r _ [4] (by decide +kernel) (by decide +kernel)
set_option maxRecDepth 20000 in
theorem gX6_isBetween_X6_turn : GoodIn wsX6_isBetween (va_wsS RX6 76 yX6_turn wsX6_turn) := goodIn_app (goodIn_of _ (by decide +kernel)) ggX6_isBetween_X6_turn
set_option maxRecDepth 20000 in
theorem ggX6_meet_X6_turn : GoodIn wsX6_meet wsX6_turn := goodIn_r _ [4] (by decide +kernel) (by decide +kernel)
set_option maxRecDepth 20000 in
theorem gX6_meet_X6_turn : GoodIn wsX6_meet (va_wsS RX6 76 yX6_turn wsX6_turn) := goodIn_app (goodIn_of _ (by decide +kernel)) ggX6_meet_X6_turn
set_option maxRecDepth 20000 in
theorem ggX6_meet_X6_sign : GoodIn wsX6_meet wsX6_sign := goodIn_r _ [7] (by decide +kernel) (by decide +kernel)
set_option maxRecDepth 20000 in
theorem gX6_meet_X6_sign : GoodIn wsX6_meet (va_wsS RX6 80 yX6_sign wsX6_sign) := goodIn_app (goodIn_of _ (by decide +kernel)) ggX6_meet_X6_sign
set_option maxRecDepth 20000 in
theorem ggX6_meet_X6_isBetween : GoodIn wsX6_meet wsX6_isBetween := goodIn_r _ [10, 1, 2, 3, 4] (by decide +kernel) (by decide +kernel)
set_option maxRecDepth 20000 in
theorem gX6_meet_X6_isBetween : GoodIn wsX6_meet (va_wsS RX6 84 yX6_isBetween wsX6_isBetween) := goodIn_app (goodIn_of _ (by decide +kernel)) ggX6_meet_X6_isBetween
set_option maxRecDepth 20000 in
theorem ggX6_straight_X6_turn : GoodIn wsX6_straight wsX6_turn := goodIn_r _ [7] (by decide +kernel) (by decide +kernel)
set_option maxRecDepth 20000 in
theorem gX6_straight_X6_turn : GoodIn wsX6_straight (va_wsS RX6 76 yX6_turn wsX6_turn) := goodIn_app (goodIn_of _ (by decide +kernel)) ggX6_straight_X6_turn
set_option maxRecDepth 20000 in
theorem ggX6_crossed_X6_meet : GoodIn wsX6_crossed wsX6_meet := goodIn_r _ [8, 9, 10, 7, 11, 12, 13, 14, 15, 16, 17] (by decide +kernel) (by decide +kernel)
set_option maxRecDepth 20000 in
theorem gX6_crossed_X6_meet : GoodIn wsX6_crossed (va_wsS RX6 88 yX6_meet wsX6_meet) := goodIn_app (goodIn_of _ (by decide +kernel)) ggX6_crossed_X6_meet
set_option maxRecDepth 20000 in
theorem ggX6_polygon_X6_straight : GoodIn wsX6_polygon wsX6_straight := goodIn_r _ [14, 4, 7, 9, 15, 16, 13, 17, 31, 32, 33, 34, 35, 36, 37, 38, 39, 40, 41, 42, 43, 44, 45, 46, 47, 48, 49, 50, 51, 52, 53, 54] (by decide +kernel) (by decide +kernel)
set_option maxRecDepth 20000 in
theorem gX6_polygon_X6_straight : GoodIn wsX6_polygon (wsV RX6 95 RX6 yX6_straight wsX6_straight) := goodIn_app (goodIn_of _ (by decide +kernel)) ggX6_polygon_X6_straight
set_option maxRecDepth 20000 in
theorem ggX6_polygon_X6_crossed : GoodIn wsX6_polygon wsX6_crossed := goodIn_r _ [21, 4, 7, 9, 3, 22, 23, 13, 24, 15, 16, 17, 25, 26, 27, 28, 29, 30, 31, 32, 33, 34, 35, 36, 37, 38, 39, 40, 41, 42, 43, 44, 45, 46, 47, 48, 49, 50, 51, 52, 53, 54] (by decide +kernel) (by decide +kernel)
set_option maxRecDepth 20000 in
theorem gX6_polygon_X6_crossed : GoodIn wsX6_polygon (wsV RX6 99 RX6 yX6_crossed wsX6_crossed) := goodIn_app (goodIn_of _ (by decide +kernel)) ggX6_polygon_X6_crossed
set_option maxRecDepth 20000 in
theorem ggX6_fault_X6_within : GoodIn wsX6_fault wsX6_within := goodIn_r _ [6] (by decide +kernel) (by decide +kernel)
set_option maxRecDepth 20000 in
theorem gX6_fault_X6_within : GoodIn wsX6_fault (va_wsS RX6 69 yX6_within wsX6_within) := goodIn_app (goodIn_of _ (by decide +kernel)) ggX6_fault_X6_within
set_option maxRecDepth 20000 in
theorem ggX6_isPolygon_X6_within : GoodIn wsX6_isPolygon wsX6_within := goodIn_r _ [5] (by decide +kernel) (by decide +kernel)
set_option maxRecDepth 20000 in
theorem gX6_isPolygon_X6_within : GoodIn wsX6_isPolygon (va_wsS RX6 69 yX6_within wsX6_within) := goodIn_app (goodIn_of _ (by decide +kernel)) ggX6_isPolygon_X6_within
set_option maxRecDepth 20000 in
theorem ggX6_isCorner_X6_isPolygon : GoodIn wsX6_isCorner wsX6_isPolygon := goodIn_r _ [6, 7, 8, 9, 5, 10, 11, 12, 13, 14, 15, 16, 17, 18, 19, 20, 21, 22, 23, 24, 25, 26, 27, 28, 29, 30, 31, 32, 33, 34] (by decide +kernel) (by decide +kernel)
set_option maxRecDepth 20000 in
theorem gX6_isCorner_X6_isPolygon : GoodIn wsX6_isCorner (wsV RX6 102 RX6 yX6_isPolygon wsX6_isPolygon) := goodIn_app (goodIn_of _ (by decide +kernel)) ggX6_isCorner_X6_isPolygon
set_option maxRecDepth 20000 in
theorem ggX6_isCorner_X6_within : GoodIn wsX6_isCorner wsX6_within := goodIn_r _ [10] (by decide +kernel) (by decide +kernel)
set_option maxRecDepth 20000 in
theorem gX6_isCorner_X6_within : GoodIn wsX6_isCorner (va_wsS RX6 69 yX6_within wsX6_within) := goodIn_app (goodIn_of _ (by decide +kernel)) ggX6_isCorner_X6_within
set_option maxRecDepth 20000 in
theorem ggX6_count_X6_isPolygon : GoodIn wsX6_count wsX6_isPolygon := goodIn_r _ [7, 1, 8, 9, 6, 10, 11, 12, 13, 14, 15, 16, 17, 18, 19, 20, 21, 22, 23, 24, 25, 26, 27, 28, 29, 30, 31, 32, 33, 34] (by decide +kernel) (by decide +kernel)
set_option maxRecDepth 20000 in
theorem gX6_count_X6_isPolygon : GoodIn wsX6_count (wsV RX6 102 RX6 yX6_isPolygon wsX6_isPolygon) := goodIn_app (goodIn_of _ (by decide +kernel)) ggX6_count_X6_isPolygon
set_option maxRecDepth 20000 in
theorem ggX6_at_X6_isCorner : GoodIn wsX6_at wsX6_isCorner := goodIn_r _ [5, 6, 7, 8, 9, 4, 10, 11, 12, 13, 14, 25, 26, 27, 28, 29, 30, 31, 32, 33, 34, 35, 36, 37, 38, 39, 40, 41, 42, 43, 44, 45, 46, 47, 48] (by decide +kernel) (by decide +kernel)
set_option maxRecDepth 20000 in
theorem gX6_at_X6_isCorner : GoodIn wsX6_at (wsV RX6 106 RX6 yX6_isCorner wsX6_isCorner) := goodIn_app (goodIn_of _ (by decide +kernel)) ggX6_at_X6_isCorner
set_option maxRecDepth 20000 in
theorem ggX6_at_X6_within : GoodIn wsX6_at wsX6_within := goodIn_r _ [14] (by decide +kernel) (by decide +kernel)
set_option maxRecDepth 20000 in
theorem gX6_at_X6_within : GoodIn wsX6_at (va_wsS RX6 69 yX6_within wsX6_within) := goodIn_app (goodIn_of _ (by decide +kernel)) ggX6_at_X6_within
set_option maxRecDepth 20000 in
theorem ggX6_at_X6_xOf : GoodIn wsX6_at wsX6_xOf := goodIn_r _ [18, 19, 6, 25, 26, 27, 28, 29, 30, 31, 32, 33, 34, 35, 36, 37, 38, 39, 40, 41, 42, 43, 44, 45, 46, 47, 48] (by decide +kernel) (by decide +kernel)
set_option maxRecDepth 20000 in
theorem gX6_at_X6_xOf : GoodIn wsX6_at (wsV RX6 110 RX6 yX6_xOf wsX6_xOf) := goodIn_app (goodIn_of _ (by decide +kernel)) ggX6_at_X6_xOf
set_option maxRecDepth 20000 in
theorem ggX6_at_X6_yOf : GoodIn wsX6_at wsX6_yOf := goodIn_r _ [23, 24, 6, 25, 26, 27, 28, 29, 30, 31, 32, 33, 34, 35, 36, 37, 38, 39, 40, 41, 42, 43, 44, 45, 46, 47, 48] (by decide +kernel) (by decide +kernel)
set_option maxRecDepth 20000 in
theorem gX6_at_X6_yOf : GoodIn wsX6_at (wsV RX6 114 RX6 yX6_yOf wsX6_yOf) := goodIn_app (goodIn_of _ (by decide +kernel)) ggX6_at_X6_yOf
set_option maxRecDepth 20000 in
theorem ggX6_twice_X6_xOf : GoodIn wsX6_twice wsX6_xOf := goodIn_r _ [6, 7, 1, 16, 17, 18, 19, 20, 21, 22, 23, 24, 25, 26, 27, 28, 29, 30, 31, 32, 33, 34, 35, 36, 37, 38, 39] (by decide +kernel) (by decide +kernel)
set_option maxRecDepth 20000 in
theorem gX6_twice_X6_xOf : GoodIn wsX6_twice (wsV RX6 110 RX6 yX6_xOf wsX6_xOf) := goodIn_app (goodIn_of _ (by decide +kernel)) ggX6_twice_X6_xOf
set_option maxRecDepth 20000 in
theorem ggX6_twice_X6_yOf : GoodIn wsX6_twice wsX6_yOf := goodIn_r _ [11, 12, 1, 16, 17, 18, 19, 20, 21, 22, 23, 24, 25, 26, 27, 28, 29, 30, 31, 32, 33, 34, 35, 36, 37, 38, 39] (by decide +kernel) (by decide +kernel)
set_option maxRecDepth 20000 in
theorem gX6_twice_X6_yOf : GoodIn wsX6_twice (wsV RX6 114 RX6 yX6_yOf wsX6_yOf) := goodIn_app (goodIn_of _ (by decide +kernel)) ggX6_twice_X6_yOf
