set_option maxRecDepth 20000 in
theorem ggX6_twice_X6_turn : GoodIn wsX6_twice wsX6_turn := goodIn_r _ [15] (by decide +kernel) (by decide +kernel)
set_option maxRecDepth 20000 in
theorem gX6_twice_X6_turn : GoodIn wsX6_twice (va_wsS RX6 76 yX6_turn wsX6_turn) := goodIn_app (goodIn_of _ (by decide +kernel)) ggX6_twice_X6_turn
set_option maxRecDepth 20000 in
theorem ggX6_area_X6_isPolygon : GoodIn wsX6_area wsX6_isPolygon := goodIn_r _ [5, 6, 7, 8, 4, 9, 28, 29, 30, 31, 32, 33, 34, 35, 36, 37, 38, 39, 40, 41, 42, 43, 44, 45, 46, 47, 48, 49, 50, 51] (by decide +kernel) (by decide +kernel)
set_option maxRecDepth 20000 in
theorem gX6_area_X6_isPolygon : GoodIn wsX6_area (wsV RX6 102 RX6 yX6_isPolygon wsX6_isPolygon) := goodIn_app (goodIn_of _ (by decide +kernel)) ggX6_area_X6_isPolygon
set_option maxRecDepth 20000 in
theorem ggX6_area_X6_twice : GoodIn wsX6_area wsX6_twice := goodIn_r _ [13, 14, 15, 16, 17, 4, 18, 19, 20, 21, 22, 23, 24, 25, 26, 27, 28, 29, 30, 31, 32, 33, 34, 35, 36, 37, 38, 39, 40, 41, 42, 43, 44, 45, 46, 47, 48, 49, 50, 51] (by decide +kernel) (by decide +kernel)
set_option maxRecDepth 20000 in
theorem gX6_area_X6_twice : GoodIn wsX6_area (wsV RX6 117 RX6 yX6_twice wsX6_twice) := goodIn_app (goodIn_of _ (by decide +kernel)) ggX6_area_X6_twice
set_option maxRecDepth 20000 in
theorem ggX6_centroid_X6_isPolygon : GoodIn wsX6_centroid wsX6_isPolygon := goodIn_r _ [7, 8, 9, 10, 6, 11, 32, 33, 34, 35, 36, 37, 38, 39, 40, 41, 42, 43, 44, 45, 46, 47, 48, 49, 50, 51, 52, 53, 54, 55] (by decide +kernel) (by decide +kernel)
set_option maxRecDepth 20000 in
theorem gX6_centroid_X6_isPolygon : GoodIn wsX6_centroid (wsV RX6 102 RX6 yX6_isPolygon wsX6_isPolygon) := goodIn_app (goodIn_of _ (by decide +kernel)) ggX6_centroid_X6_isPolygon
set_option maxRecDepth 20000 in
theorem ggX6_centroid_X6_within : GoodIn wsX6_centroid wsX6_within := goodIn_r _ [11] (by decide +kernel) (by decide +kernel)
set_option maxRecDepth 20000 in
theorem gX6_centroid_X6_within : GoodIn wsX6_centroid (va_wsS RX6 69 yX6_within wsX6_within) := goodIn_app (goodIn_of _ (by decide +kernel)) ggX6_centroid_X6_within
set_option maxRecDepth 20000 in
theorem ggX6_centroid_X6_xOf : GoodIn wsX6_centroid wsX6_xOf := goodIn_r _ [15, 16, 1, 32, 33, 34, 35, 36, 37, 38, 39, 40, 41, 42, 43, 44, 45, 46, 47, 48, 49, 50, 51, 52, 53, 54, 55] (by decide +kernel) (by decide +kernel)
set_option maxRecDepth 20000 in
theorem gX6_centroid_X6_xOf : GoodIn wsX6_centroid (wsV RX6 110 RX6 yX6_xOf wsX6_xOf) := goodIn_app (goodIn_of _ (by decide +kernel)) ggX6_centroid_X6_xOf
set_option maxRecDepth 20000 in
theorem ggX6_centroid_X6_yOf : GoodIn wsX6_centroid wsX6_yOf := goodIn_r _ [20, 21, 1, 32, 33, 34, 35, 36, 37, 38, 39, 40, 41, 42, 43, 44, 45, 46, 47, 48, 49, 50, 51, 52, 53, 54, 55] (by decide +kernel) (by decide +kernel)
set_option maxRecDepth 20000 in
theorem gX6_centroid_X6_yOf : GoodIn wsX6_centroid (wsV RX6 114 RX6 yX6_yOf wsX6_yOf) := goodIn_app (goodIn_of _ (by decide +kernel)) ggX6_centroid_X6_yOf
set_option maxRecDepth 20000 in
theorem ggX6_centroid_X6_turn : GoodIn wsX6_centroid wsX6_turn := goodIn_r _ [24] (by decide +kernel) (by decide +kernel)
set_option maxRecDepth 20000 in
theorem gX6_centroid_X6_turn : GoodIn wsX6_centroid (va_wsS RX6 76 yX6_turn wsX6_turn) := goodIn_app (goodIn_of _ (by decide +kernel)) ggX6_centroid_X6_turn
set_option maxRecDepth 20000 in
theorem ggX6_centroid_X6_twice : GoodIn wsX6_centroid wsX6_twice := goodIn_r _ [28, 1, 12, 13, 14, 6, 15, 16, 17, 18, 19, 20, 21, 22, 23, 24, 32, 33, 34, 35, 36, 37, 38, 39, 40, 41, 42, 43, 44, 45, 46, 47, 48, 49, 50, 51, 52, 53, 54, 55] (by decide +kernel) (by decide +kernel)
set_option maxRecDepth 20000 in
theorem gX6_centroid_X6_twice : GoodIn wsX6_centroid (wsV RX6 117 RX6 yX6_twice wsX6_twice) := goodIn_app (goodIn_of _ (by decide +kernel)) ggX6_centroid_X6_twice
set_option maxRecDepth 20000 in
theorem ggX6_centroid_X6_common : GoodIn wsX6_centroid wsX6_common := goodIn_r _ [31] (by decide +kernel) (by decide +kernel)
set_option maxRecDepth 20000 in
theorem gX6_centroid_X6_common : GoodIn wsX6_centroid (va_wsS RX6 122 yX6_common wsX6_common) := goodIn_app (goodIn_of _ (by decide +kernel)) ggX6_centroid_X6_common
set_option maxRecDepth 20000 in
theorem ggX6_points_X6_isPolygon : GoodIn wsX6_points wsX6_isPolygon := goodIn_r _ [6, 7, 8, 9, 5, 10, 31, 32, 33, 34, 35, 36, 37, 38, 39, 40, 41, 42, 43, 44, 45, 46, 47, 48, 49, 50, 51, 52, 53, 54] (by decide +kernel) (by decide +kernel)
set_option maxRecDepth 20000 in
theorem gX6_points_X6_isPolygon : GoodIn wsX6_points (wsV RX6 102 RX6 yX6_isPolygon wsX6_isPolygon) := goodIn_app (goodIn_of _ (by decide +kernel)) ggX6_points_X6_isPolygon
set_option maxRecDepth 20000 in
theorem ggX6_points_X6_within : GoodIn wsX6_points wsX6_within := goodIn_r _ [10] (by decide +kernel) (by decide +kernel)
set_option maxRecDepth 20000 in
theorem gX6_points_X6_within : GoodIn wsX6_points (va_wsS RX6 69 yX6_within wsX6_within) := goodIn_app (goodIn_of _ (by decide +kernel)) ggX6_points_X6_within
set_option maxRecDepth 20000 in
theorem ggX6_points_X6_xOf : GoodIn wsX6_points wsX6_xOf := goodIn_r _ [14, 15, 1, 31, 32, 33, 34, 35, 36, 37, 38, 39, 40, 41, 42, 43, 44, 45, 46, 47, 48, 49, 50, 51, 52, 53, 54] (by decide +kernel) (by decide +kernel)
set_option maxRecDepth 20000 in
theorem gX6_points_X6_xOf : GoodIn wsX6_points (wsV RX6 110 RX6 yX6_xOf wsX6_xOf) := goodIn_app (goodIn_of _ (by decide +kernel)) ggX6_points_X6_xOf
set_option maxRecDepth 20000 in
theorem ggX6_points_X6_yOf : GoodIn wsX6_points wsX6_yOf := goodIn_r _ [19, 20, 1, 31, 32, 33, 34, 35, 36, 37, 38, 39, 40, 41, 42, 43, 44, 45, 46, 47, 48, 49, 50, 51, 52, 53, 54] (by decide +kernel) (by decide +kernel)
set_option maxRecDepth 20000 in
theorem gX6_points_X6_yOf : GoodIn wsX6_points (wsV RX6 114 RX6 yX6_yOf wsX6_yOf) := goodIn_app (goodIn_of _ (by decide +kernel)) ggX6_points_X6_yOf
set_option maxRecDepth 20000 in
theorem ggX6_points_X6_common : GoodIn wsX6_points wsX6_common := goodIn_r _ [23] (by decide +kernel) (by decide +kernel)
set_option maxRecDepth 20000 in
theorem gX6_points_X6_common : GoodIn wsX6_points (va_wsS RX6 122 yX6_common wsX6_common) := goodIn_app (goodIn_of _ (by decide +kernel)) ggX6_points_X6_common
set_option maxRecDepth 20000 in
theorem ggX6_points_X6_twice : GoodIn wsX6_points wsX6_twice := goodIn_r _ [27, 1, 11, 12, 13, 5, 14, 15, 16, 17, 18, 19, 20, 28, 29, 30, 31, 32, 33, 34, 35, 36, 37, 38, 39, 40, 41, 42, 43, 44, 45, 46, 47, 48, 49, 50, 51, 52, 53, 54] (by decide +kernel) (by decide +kernel)
set_option maxRecDepth 20000 in
theorem gX6_points_X6_twice : GoodIn wsX6_points (wsV RX6 117 RX6 yX6_twice wsX6_twice) := goodIn_app (goodIn_of _ (by decide +kernel)) ggX6_points_X6_twice
set_option maxRecDepth 20000 in
theorem ggX6_lies_X6_xOf : GoodIn wsX6_lies wsX6_xOf := goodIn_r _ [6, 7, 1, 19, 20, 21, 22, 23, 24, 25, 26, 27, 28, 29, 30, 31, 32, 33, 34, 35, 36, 37, 38, 39, 40, 41, 42] (by decide +kernel) (by decide +kernel)
set_option maxRecDepth 20000 in
theorem gX6_lies_X6_xOf : GoodIn wsX6_lies (wsV RX6 110 RX6 yX6_xOf wsX6_xOf) := goodIn_app (goodIn_of _ (by decide +kernel)) ggX6_lies_X6_xOf
set_option maxRecDepth 20000 in
theorem ggX6_lies_X6_yOf : GoodIn wsX6_lies wsX6_yOf := goodIn_r _ [11, 12, 1, 19, 20, 21, 22, 23, 24, 25, 26, 27, 28, 29, 30, 31, 32, 33, 34, 35, 36, 37, 38, 39, 40, 41, 42] (by decide +kernel) (by decide +kernel)
set_option maxRecDepth 20000 in
theorem gX6_lies_X6_yOf : GoodIn wsX6_lies (wsV RX6 114 RX6 yX6_yOf wsX6_yOf) := goodIn_app (goodIn_of _ (by decide +kernel)) ggX6_lies_X6_yOf
set_option maxRecDepth 20000 in
theorem ggX6_lies_X6_isBetween : GoodIn wsX6_lies wsX6_isBetween := goodIn_r _ [15, 16, 17, 5, 18] (by decide +kernel) (by decide +kernel)
set_option maxRecDepth 20000 in
theorem gX6_lies_X6_isBetween : GoodIn wsX6_lies (va_wsS RX6 84 yX6_isBetween wsX6_isBetween) := goodIn_app (goodIn_of _ (by decide +kernel)) ggX6_lies_X6_isBetween
set_option maxRecDepth 20000 in
theorem ggX6_lies_X6_turn : GoodIn wsX6_lies wsX6_turn := goodIn_r _ [18] (by decide +kernel) (by decide +kernel)
set_option maxRecDepth 20000 in
theorem gX6_lies_X6_turn : GoodIn wsX6_lies (va_wsS RX6 76 yX6_turn wsX6_turn) := goodIn_app (goodIn_of _ (by decide +kernel)) ggX6_lies_X6_turn
