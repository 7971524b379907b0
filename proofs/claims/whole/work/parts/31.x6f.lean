set_option maxRecDepth 20000 in
theorem ggX6_square_X6_yOf : GoodIn wsX6_square wsX6_yOf := goodIn_r _ [11, 12, 7, 13, 14, 15, 16, 17, 18, 19, 20, 21, 22, 23, 24, 25, 26, 27, 28, 29, 30, 31, 32, 33, 34, 35, 36] (by decide +kernel) (by decide +kernel)
set_option maxRecDepth 20000 in
theorem gX6_square_X6_yOf : GoodIn wsX6_square (wsV RX6 114 RX6 yX6_yOf wsX6_yOf) := goodIn_app (goodIn_of _ (by decide +kernel)) ggX6_square_X6_yOf
set_option maxRecDepth 20000 in
theorem ggX6_part_X6_sight : GoodIn wsX6_part wsX6_sight := goodIn_r _ [9, 10, 11, 12, 8, 13, 1, 14, 15, 16, 17, 18, 19, 20, 21, 22, 23, 24, 25, 26, 27, 28, 29, 30, 31, 32, 33, 34, 35, 36, 37, 38, 39, 40, 41, 42, 43, 56, 57, 58, 59, 60, 61, 62, 63, 64, 65, 66, 67, 68, 69, 70, 71, 72, 73, 74, 75, 76, 77, 78, 79] (by decide +kernel) (by decide +kernel)
set_option maxRecDepth 20000 in
theorem gX6_part_X6_sight : GoodIn wsX6_part (wsV RX6 136 RX6 yX6_sight wsX6_sight) := goodIn_app (goodIn_of _ (by decide +kernel)) ggX6_part_X6_sight
set_option maxRecDepth 20000 in
theorem ggX6_part_X6_square : GoodIn wsX6_part wsX6_square := goodIn_r _ [47, 18, 19, 20, 8, 21, 22, 1, 23, 24, 25, 26, 27, 56, 57, 58, 59, 60, 61, 62, 63, 64, 65, 66, 67, 68, 69, 70, 71, 72, 73, 74, 75, 76, 77, 78, 79] (by decide +kernel) (by decide +kernel)
set_option maxRecDepth 20000 in
theorem gX6_part_X6_square : GoodIn wsX6_part (wsV RX6 144 RX6 yX6_square wsX6_square) := goodIn_app (goodIn_of _ (by decide +kernel)) ggX6_part_X6_square
set_option maxRecDepth 20000 in
theorem ggX6_part_X6_partChain : GoodIn wsX6_part wsX6_partChain := goodIn_r _ [51, 3, 4, 52, 53, 54, 8, 55, 2, 56, 57, 58, 59, 60, 61, 62, 63, 64, 65, 66, 67, 68, 69, 70, 71, 72, 73, 74, 75, 76, 77, 78, 79] (by decide +kernel) (by decide +kernel)
set_option maxRecDepth 20000 in
theorem gX6_part_X6_partChain : GoodIn wsX6_part (wsV RX6 147 RX6 yX6_partChain wsX6_partChain) := goodIn_app (goodIn_of _ (by decide +kernel)) ggX6_part_X6_partChain
set_option maxRecDepth 20000 in
theorem ggX6_partChain_X6_sumBy : GoodIn wsX6_partChain wsX6_sumBy := goodIn_r _ [7, 8, 2, 9, 10, 11, 12, 13, 14, 15, 16, 17, 18, 19, 20, 21, 22, 23, 24, 25, 26, 27, 28, 29, 30, 31, 32] (by decide +kernel) (by decide +kernel)
set_option maxRecDepth 20000 in
theorem gX6_partChain_X6_sumBy : GoodIn wsX6_partChain (wsV RX6 150 RX6 yX6_sumBy wsX6_sumBy) := goodIn_app (goodIn_of _ (by decide +kernel)) ggX6_partChain_X6_sumBy
set_option maxRecDepth 20000 in
theorem ggX6_triangulations_X6_isPolygon : GoodIn wsX6_triangulations wsX6_isPolygon := goodIn_r _ [7, 8, 9, 10, 6, 11, 68, 69, 70, 71, 72, 73, 74, 75, 76, 77, 78, 79, 80, 81, 82, 83, 84, 85, 86, 87, 88, 89, 90, 91] (by decide +kernel) (by decide +kernel)
set_option maxRecDepth 20000 in
theorem gX6_triangulations_X6_isPolygon : GoodIn wsX6_triangulations (wsV RX6 102 RX6 yX6_isPolygon wsX6_isPolygon) := goodIn_app (goodIn_of _ (by decide +kernel)) ggX6_triangulations_X6_isPolygon
set_option maxRecDepth 20000 in
theorem ggX6_triangulations_X6_part : GoodIn wsX6_triangulations wsX6_part := goodIn_r _ [15, 2, 16, 1, 17, 18, 19, 20, 6, 21, 22, 23, 24, 25, 26, 27, 28, 29, 30, 31, 32, 33, 34, 35, 36, 37, 38, 39, 40, 41, 42, 43, 44, 45, 46, 47, 48, 49, 50, 51, 52, 53, 54, 55, 56, 57, 58, 59, 60, 61, 62, 63, 64, 65, 66, 67, 68, 69, 70, 71, 72, 73, 74, 75, 76, 77, 78, 79, 80, 81, 82, 83, 84, 85, 86, 87, 88, 89, 90, 91] (by decide +kernel) (by decide +kernel)
set_option maxRecDepth 20000 in
theorem gX6_triangulations_X6_part : GoodIn wsX6_triangulations (wsV RX6 153 RX6 yX6_part wsX6_part) := goodIn_app (goodIn_of _ (by decide +kernel)) ggX6_triangulations_X6_part
set_option maxRecDepth 20000 in
theorem ggX6_best_X6_isPolygon : GoodIn wsX6_best wsX6_isPolygon := goodIn_r _ [7, 8, 9, 10, 6, 11, 68, 69, 70, 71, 72, 73, 74, 75, 76, 77, 78, 79, 80, 81, 82, 83, 84, 85, 86, 87, 88, 89, 90, 91] (by decide +kernel) (by decide +kernel)
set_option maxRecDepth 20000 in
theorem gX6_best_X6_isPolygon : GoodIn wsX6_best (wsV RX6 102 RX6 yX6_isPolygon wsX6_isPolygon) := goodIn_app (goodIn_of _ (by decide +kernel)) ggX6_best_X6_isPolygon
set_option maxRecDepth 20000 in
theorem ggX6_best_X6_part : GoodIn wsX6_best wsX6_part := goodIn_r _ [15, 2, 16, 17, 1, 18, 19, 20, 6, 21, 22, 23, 24, 25, 26, 27, 28, 29, 30, 31, 32, 33, 34, 35, 36, 37, 38, 39, 40, 41, 42, 43, 44, 45, 46, 47, 48, 49, 50, 51, 52, 53, 54, 55, 56, 57, 58, 59, 60, 61, 62, 63, 64, 65, 66, 67, 68, 69, 70, 71, 72, 73, 74, 75, 76, 77, 78, 79, 80, 81, 82, 83, 84, 85, 86, 87, 88, 89, 90, 91] (by decide +kernel) (by decide +kernel)
set_option maxRecDepth 20000 in
theorem gX6_best_X6_part : GoodIn wsX6_best (wsV RX6 153 RX6 yX6_part wsX6_part) := goodIn_app (goodIn_of _ (by decide +kernel)) ggX6_best_X6_part
set_option maxRecDepth 20000 in
theorem ggX6_layTriangles_X6_part : GoodIn wsX6_layTriangles wsX6_part := goodIn_r _ [12, 3, 13, 14, 4, 15, 16, 17, 11, 18, 19, 20, 21, 22, 23, 24, 25, 26, 27, 28, 29, 30, 31, 32, 33, 34, 35, 36, 37, 38, 39, 40, 41, 42, 43, 44, 45, 46, 47, 48, 49, 50, 51, 52, 53, 54, 55, 56, 57, 58, 59, 60, 61, 62, 63, 64, 65, 66, 67, 68, 69, 70, 71, 72, 73, 74, 75, 76, 77, 78, 79, 80, 81, 82, 83, 84, 85, 86, 87, 88] (by decide +kernel) (by decide +kernel)
set_option maxRecDepth 20000 in
theorem gX6_layTriangles_X6_part : GoodIn wsX6_layTriangles (wsV RX6 153 RX6 yX6_part wsX6_part) := goodIn_app (goodIn_of _ (by decide +kernel)) ggX6_layTriangles_X6_part
set_option maxRecDepth 20000 in
theorem ggX6_layTriangles_X6_sumBy : GoodIn wsX6_layTriangles wsX6_sumBy := goodIn_r _ [64, 13, 4, 65, 66, 67, 68, 69, 70, 71, 72, 73, 74, 75, 76, 77, 78, 79, 80, 81, 82, 83, 84, 85, 86, 87, 88] (by decide +kernel) (by decide +kernel)
set_option maxRecDepth 20000 in
theorem gX6_layTriangles_X6_sumBy : GoodIn wsX6_layTriangles (wsV RX6 150 RX6 yX6_sumBy wsX6_sumBy) := goodIn_app (goodIn_of _ (by decide +kernel)) ggX6_layTriangles_X6_sumBy
set_option maxRecDepth 20000 in
theorem ggX6_triangle_X6_isPolygon : GoodIn wsX6_triangle wsX6_isPolygon := goodIn_r _ [9, 10, 11, 12, 8, 13, 77, 78, 79, 80, 81, 82, 83, 84, 85, 86, 87, 88, 89, 90, 91, 92, 93, 94, 95, 96, 97, 98, 99, 100] (by decide +kernel) (by decide +kernel)
set_option maxRecDepth 20000 in
theorem gX6_triangle_X6_isPolygon : GoodIn wsX6_triangle (wsV RX6 102 RX6 yX6_isPolygon wsX6_isPolygon) := goodIn_app (goodIn_of _ (by decide +kernel)) ggX6_triangle_X6_isPolygon
set_option maxRecDepth 20000 in
theorem ggX6_triangle_X6_within : GoodIn wsX6_triangle wsX6_within := goodIn_r _ [13] (by decide +kernel) (by decide +kernel)
set_option maxRecDepth 20000 in
theorem gX6_triangle_X6_within : GoodIn wsX6_triangle (va_wsS RX6 69 yX6_within wsX6_within) := goodIn_app (goodIn_of _ (by decide +kernel)) ggX6_triangle_X6_within
set_option maxRecDepth 20000 in
theorem ggX6_triangle_X6_layTriangles : GoodIn wsX6_triangle wsX6_layTriangles := goodIn_r _ [17, 1, 18, 19, 20, 2, 3, 4, 21, 22, 23, 8, 24, 25, 26, 27, 28, 29, 30, 31, 32, 33, 34, 35, 36, 37, 38, 39, 40, 41, 42, 43, 44, 45, 46, 47, 48, 49, 50, 51, 52, 53, 54, 55, 56, 57, 58, 59, 60, 61, 62, 63, 64, 65, 66, 67, 68, 69, 70, 71, 72, 73, 74, 75, 76, 77, 78, 79, 80, 81, 82, 83, 84, 85, 86, 87, 88, 89, 90, 91, 92, 93, 94, 95, 96, 97, 98, 99, 100] (by decide +kernel) (by decide +kernel)
set_option maxRecDepth 20000 in
theorem gX6_triangle_X6_layTriangles : GoodIn wsX6_triangle (wsV RX6 160 RX6 yX6_layTriangles wsX6_layTriangles) := goodIn_app (goodIn_of _ (by decide +kernel)) ggX6_triangle_X6_layTriangles
set_option maxRecDepth 20000 in
theorem ggX6_layDiagonals_X6_layTriangles : GoodIn wsX6_layDiagonals wsX6_layTriangles := goodIn_r _ [15, 2, 16, 7, 17, 3, 4, 5, 18, 19, 20, 14, 21, 22, 23, 24, 25, 26, 27, 28, 29, 30, 31, 32, 33, 34, 35, 36, 37, 38, 39, 40, 41, 42, 43, 44, 45, 46, 47, 48, 49, 50, 51, 52, 53, 54, 55, 56, 57, 58, 59, 60, 61, 62, 63, 64, 65, 66, 67, 68, 69, 70, 71, 72, 73, 82, 83, 84, 85, 86, 87, 88, 89, 90, 91, 92, 93, 94, 95, 96, 97, 98, 99, 100, 101, 102, 103, 104, 105] (by decide +kernel) (by decide +kernel)
set_option maxRecDepth 20000 in
theorem gX6_layDiagonals_X6_layTriangles : GoodIn wsX6_layDiagonals (wsV RX6 160 RX6 yX6_layTriangles wsX6_layTriangles) := goodIn_app (goodIn_of _ (by decide +kernel)) ggX6_layDiagonals_X6_layTriangles
set_option maxRecDepth 20000 in
theorem ggX6_layDiagonals_X6_isFlat : GoodIn wsX6_layDiagonals wsX6_isFlat := goodIn_r _ [77, 7, 6, 8, 9, 10, 36, 37, 38, 14, 39, 40, 41, 42, 43, 44, 45, 49, 50, 51, 78, 79, 80, 81, 82, 83, 84, 85, 86, 87, 88, 89, 90, 91, 92, 93, 94, 95, 96, 97, 98, 99, 100, 101, 102, 103, 104, 105] (by decide +kernel) (by decide +kernel)
set_option maxRecDepth 20000 in
theorem gX6_layDiagonals_X6_isFlat : GoodIn wsX6_layDiagonals (wsV RX6 166 RX6 yX6_isFlat wsX6_isFlat) := goodIn_app (goodIn_of _ (by decide +kernel)) ggX6_layDiagonals_X6_isFlat
set_option maxRecDepth 20000 in
theorem ggX6_isFlat_X6_xOf : GoodIn wsX6_isFlat wsX6_xOf := goodIn_r _ [10, 11, 1, 24, 25, 26, 27, 28, 29, 30, 31, 32, 33, 34, 35, 36, 37, 38, 39, 40, 41, 42, 43, 44, 45, 46, 47] (by decide +kernel) (by decide +kernel)
set_option maxRecDepth 20000 in
theorem gX6_isFlat_X6_xOf : GoodIn wsX6_isFlat (wsV RX6 110 RX6 yX6_xOf wsX6_xOf) := goodIn_app (goodIn_of _ (by decide +kernel)) ggX6_isFlat_X6_xOf
set_option maxRecDepth 20000 in
theorem ggX6_isFlat_X6_yOf : GoodIn wsX6_isFlat wsX6_yOf := goodIn_r _ [15, 16, 1, 24, 25, 26, 27, 28, 29, 30, 31, 32, 33, 34, 35, 36, 37, 38, 39, 40, 41, 42, 43, 44, 45, 46, 47] (by decide +kernel) (by decide +kernel)
set_option maxRecDepth 20000 in
theorem gX6_isFlat_X6_yOf : GoodIn wsX6_isFlat (wsV RX6 114 RX6 yX6_yOf wsX6_yOf) := goodIn_app (goodIn_of _ (by decide +kernel)) ggX6_isFlat_X6_yOf
set_option maxRecDepth 20000 in
theorem ggX6_isFlat_X6_turn : GoodIn wsX6_isFlat wsX6_turn := goodIn_r _ [19] (by decide +kernel) (by decide +kernel)
set_option maxRecDepth 20000 in
theorem gX6_isFlat_X6_turn : GoodIn wsX6_isFlat (va_wsS RX6 76 yX6_turn wsX6_turn) := goodIn_app (goodIn_of _ (by decide +kernel)) ggX6_isFlat_X6_turn
set_option maxRecDepth 20000 in
theorem ggX6_isFlat_X6_twice : GoodIn wsX6_isFlat wsX6_twice := goodIn_r _ [23, 1, 6, 7, 8, 9, 10, 11, 12, 13, 14, 15, 16, 17, 18, 19, 24, 25, 26, 27, 28, 29, 30, 31, 32, 33, 34, 35, 36, 37, 38, 39, 40, 41, 42, 43, 44, 45, 46, 47] (by decide +kernel) (by decide +kernel)
set_option maxRecDepth 20000 in
theorem gX6_isFlat_X6_twice : GoodIn wsX6_isFlat (wsV RX6 117 RX6 yX6_twice wsX6_twice) := goodIn_app (goodIn_of _ (by decide +kernel)) ggX6_isFlat_X6_twice
