set_option maxRecDepth 20000 in
theorem ggX6_diagonal_X6_isPolygon : GoodIn wsX6_diagonal wsX6_isPolygon := goodIn_r _ [9, 10, 11, 12, 8, 13, 94, 95, 96, 97, 98, 99, 100, 101, 102, 103, 104, 105, 106, 107, 108, 109, 110, 111, 112, 113, 114, 115, 116, 117] (by decide +kernel) (by decide +kernel)
set_option maxRecDepth 20000 in
theorem gX6_diagonal_X6_isPolygon : GoodIn wsX6_diagonal (wsV RX6 102 RX6 yX6_isPolygon wsX6_isPolygon) := goodIn_app (goodIn_of _ (by decide +kernel)) ggX6_diagonal_X6_isPolygon
set_option maxRecDepth 20000 in
theorem ggX6_diagonal_X6_within : GoodIn wsX6_diagonal wsX6_within := goodIn_r _ [13] (by decide +kernel) (by decide +kernel)
set_option maxRecDepth 20000 in
theorem gX6_diagonal_X6_within : GoodIn wsX6_diagonal (va_wsS RX6 69 yX6_within wsX6_within) := goodIn_app (goodIn_of _ (by decide +kernel)) ggX6_diagonal_X6_within
set_option maxRecDepth 20000 in
theorem ggX6_diagonal_X6_layDiagonals : GoodIn wsX6_diagonal wsX6_layDiagonals := goodIn_r _ [17, 18, 19, 20, 21, 22, 1, 23, 2, 3, 4, 24, 25, 26, 8, 27, 28, 29, 30, 31, 32, 33, 34, 35, 36, 37, 38, 39, 40, 41, 42, 43, 44, 45, 46, 47, 48, 49, 50, 51, 52, 53, 54, 55, 56, 57, 58, 59, 60, 61, 62, 63, 64, 65, 66, 67, 68, 69, 70, 71, 72, 73, 74, 75, 76, 77, 78, 79, 80, 81, 82, 83, 84, 85, 86, 87, 88, 89, 90, 91, 92, 93, 94, 95, 96, 97, 98, 99, 100, 101, 102, 103, 104, 105, 106, 107, 108, 109, 110, 111, 112, 113, 114, 115, 116, 117] (by decide +kernel) (by decide +kernel)
set_option maxRecDepth 20000 in
theorem gX6_diagonal_X6_layDiagonals : GoodIn wsX6_diagonal (wsV RX6 170 RX6 yX6_layDiagonals wsX6_layDiagonals) := goodIn_app (goodIn_of _ (by decide +kernel)) ggX6_diagonal_X6_layDiagonals
set_option maxRecDepth 20000 in
theorem ggX6_parts_X6_isPolygon : GoodIn wsX6_parts wsX6_isPolygon := goodIn_r _ [7, 8, 9, 10, 6, 11, 94, 95, 96, 97, 98, 99, 100, 101, 102, 103, 104, 105, 106, 107, 108, 109, 110, 111, 112, 113, 114, 115, 116, 117] (by decide +kernel) (by decide +kernel)
set_option maxRecDepth 20000 in
theorem gX6_parts_X6_isPolygon : GoodIn wsX6_parts (wsV RX6 102 RX6 yX6_isPolygon wsX6_isPolygon) := goodIn_app (goodIn_of _ (by decide +kernel)) ggX6_parts_X6_isPolygon
set_option maxRecDepth 20000 in
theorem ggX6_parts_X6_layDiagonals : GoodIn wsX6_parts wsX6_layDiagonals := goodIn_r _ [15, 16, 17, 18, 19, 20, 1, 21, 22, 23, 2, 24, 25, 26, 6, 27, 28, 29, 30, 31, 32, 33, 34, 35, 36, 37, 38, 39, 40, 41, 42, 43, 44, 45, 46, 47, 48, 49, 50, 51, 52, 53, 54, 55, 56, 57, 58, 59, 60, 61, 62, 63, 64, 65, 66, 67, 68, 69, 70, 71, 72, 73, 74, 75, 76, 77, 78, 79, 80, 81, 82, 83, 84, 85, 86, 87, 88, 89, 90, 91, 92, 93, 94, 95, 96, 97, 98, 99, 100, 101, 102, 103, 104, 105, 106, 107, 108, 109, 110, 111, 112, 113, 114, 115, 116, 117] (by decide +kernel) (by decide +kernel)
set_option maxRecDepth 20000 in
theorem gX6_parts_X6_layDiagonals : GoodIn wsX6_parts (wsV RX6 170 RX6 yX6_layDiagonals wsX6_layDiagonals) := goodIn_app (goodIn_of _ (by decide +kernel)) ggX6_parts_X6_layDiagonals
set_option maxRecDepth 20000 in
theorem ggX6_fits_X6_go : GoodIn wsX6_fits wsX6_go := goodIn_r _ [6, 1, 24, 25, 26, 27, 28, 29, 30, 31, 32, 33, 34, 35, 36, 37, 38, 39, 40, 41, 42, 43, 44, 45, 46, 47] (by decide +kernel) (by decide +kernel)
set_option maxRecDepth 20000 in
theorem gX6_fits_X6_go : GoodIn wsX6_fits (wsV RX6 173 RX6 yX6_go wsX6_go) := goodIn_app (goodIn_of _ (by decide +kernel)) ggX6_fits_X6_go
set_option maxRecDepth 20000 in
theorem ggX6_fits_X6_xOf : GoodIn wsX6_fits wsX6_xOf := goodIn_r _ [10, 11, 1, 24, 25, 26, 27, 28, 29, 30, 31, 32, 33, 34, 35, 36, 37, 38, 39, 40, 41, 42, 43, 44, 45, 46, 47] (by decide +kernel) (by decide +kernel)
set_option maxRecDepth 20000 in
theorem gX6_fits_X6_xOf : GoodIn wsX6_fits (wsV RX6 110 RX6 yX6_xOf wsX6_xOf) := goodIn_app (goodIn_of _ (by decide +kernel)) ggX6_fits_X6_xOf
set_option maxRecDepth 20000 in
theorem ggX6_fits_X6_yOf : GoodIn wsX6_fits wsX6_yOf := goodIn_r _ [15, 16, 1, 24, 25, 26, 27, 28, 29, 30, 31, 32, 33, 34, 35, 36, 37, 38, 39, 40, 41, 42, 43, 44, 45, 46, 47] (by decide +kernel) (by decide +kernel)
set_option maxRecDepth 20000 in
theorem gX6_fits_X6_yOf : GoodIn wsX6_fits (wsV RX6 114 RX6 yX6_yOf wsX6_yOf) := goodIn_app (goodIn_of _ (by decide +kernel)) ggX6_fits_X6_yOf
set_option maxRecDepth 20000 in
theorem ggX6_fits_X6_turn : GoodIn wsX6_fits wsX6_turn := goodIn_r _ [19] (by decide +kernel) (by decide +kernel)
set_option maxRecDepth 20000 in
theorem gX6_fits_X6_turn : GoodIn wsX6_fits (va_wsS RX6 76 yX6_turn wsX6_turn) := goodIn_app (goodIn_of _ (by decide +kernel)) ggX6_fits_X6_turn
set_option maxRecDepth 20000 in
theorem ggX6_fits_X6_square : GoodIn wsX6_fits wsX6_square := goodIn_r _ [23, 7, 8, 9, 5, 10, 11, 1, 12, 13, 14, 15, 16, 24, 25, 26, 27, 28, 29, 30, 31, 32, 33, 34, 35, 36, 37, 38, 39, 40, 41, 42, 43, 44, 45, 46, 47] (by decide +kernel) (by decide +kernel)
set_option maxRecDepth 20000 in
theorem gX6_fits_X6_square : GoodIn wsX6_fits (wsV RX6 144 RX6 yX6_square wsX6_square) := goodIn_app (goodIn_of _ (by decide +kernel)) ggX6_fits_X6_square
set_option maxRecDepth 20000 in
theorem ggX6_fitting_X6_fits : GoodIn wsX6_fitting wsX6_fits := goodIn_r _ [7, 2, 8, 9, 10, 6, 11, 12, 13, 14, 15, 16, 17, 18, 19, 20, 21, 22, 23, 24, 25, 26, 27, 28, 29, 30, 31, 32, 33, 34, 35, 36, 37, 38, 39, 40, 41, 42, 43, 44, 45, 46, 47, 48, 49, 50, 51, 52] (by decide +kernel) (by decide +kernel)
set_option maxRecDepth 20000 in
theorem gX6_fitting_X6_fits : GoodIn wsX6_fitting (wsV RX6 180 RX6 yX6_fits wsX6_fits) := goodIn_app (goodIn_of _ (by decide +kernel)) ggX6_fitting_X6_fits
set_option maxRecDepth 20000 in
theorem ggX6_same_X6_isPolygon : GoodIn wsX6_same wsX6_isPolygon := goodIn_r _ [5, 6, 7, 8, 4, 9, 41, 42, 43, 44, 45, 46, 47, 48, 49, 50, 51, 52, 53, 54, 55, 56, 57, 58, 59, 60, 61, 62, 63, 64] (by decide +kernel) (by decide +kernel)
set_option maxRecDepth 20000 in
theorem gX6_same_X6_isPolygon : GoodIn wsX6_same (wsV RX6 102 RX6 yX6_isPolygon wsX6_isPolygon) := goodIn_app (goodIn_of _ (by decide +kernel)) ggX6_same_X6_isPolygon
set_option maxRecDepth 20000 in
theorem ggX6_same_X6_fitting : GoodIn wsX6_same wsX6_fitting := goodIn_r _ [13, 14, 15, 16, 17, 18, 4, 19, 20, 21, 22, 23, 24, 25, 26, 27, 28, 29, 30, 31, 32, 33, 34, 35, 36, 37, 38, 39, 40, 41, 42, 43, 44, 45, 46, 47, 48, 49, 50, 51, 52, 53, 54, 55, 56, 57, 58, 59, 60, 61, 62, 63, 64] (by decide +kernel) (by decide +kernel)
set_option maxRecDepth 20000 in
theorem gX6_same_X6_fitting : GoodIn wsX6_same (wsV RX6 184 RX6 yX6_fitting wsX6_fitting) := goodIn_app (goodIn_of _ (by decide +kernel)) ggX6_same_X6_fitting
set_option maxRecDepth 20000 in
theorem ggX6_onto_X6_isPolygon : GoodIn wsX6_onto wsX6_isPolygon := goodIn_r _ [6, 7, 8, 9, 5, 10, 41, 42, 43, 44, 45, 46, 47, 48, 49, 50, 51, 52, 53, 54, 55, 56, 57, 58, 59, 60, 61, 62, 63, 64] (by decide +kernel) (by decide +kernel)
set_option maxRecDepth 20000 in
theorem gX6_onto_X6_isPolygon : GoodIn wsX6_onto (wsV RX6 102 RX6 yX6_isPolygon wsX6_isPolygon) := goodIn_app (goodIn_of _ (by decide +kernel)) ggX6_onto_X6_isPolygon
set_option maxRecDepth 20000 in
theorem ggX6_onto_X6_fitting : GoodIn wsX6_onto wsX6_fitting := goodIn_r _ [14, 1, 15, 16, 17, 18, 5, 19, 20, 21, 22, 23, 24, 25, 26, 27, 28, 29, 30, 31, 32, 33, 34, 35, 36, 37, 38, 39, 40, 41, 42, 43, 44, 45, 46, 47, 48, 49, 50, 51, 52, 53, 54, 55, 56, 57, 58, 59, 60, 61, 62, 63, 64] (by decide +kernel) (by decide +kernel)
set_option maxRecDepth 20000 in
theorem gX6_onto_X6_fitting : GoodIn wsX6_onto (wsV RX6 184 RX6 yX6_fitting wsX6_fitting) := goodIn_app (goodIn_of _ (by decide +kernel)) ggX6_onto_X6_fitting
set_option maxRecDepth 20000 in
theorem ggX6_symmetries_X6_isPolygon : GoodIn wsX6_symmetries wsX6_isPolygon := goodIn_r _ [5, 6, 7, 8, 4, 9, 41, 42, 43, 44, 45, 46, 47, 48, 49, 50, 51, 52, 53, 54, 55, 56, 57, 58, 59, 60, 61, 62, 63, 64] (by decide +kernel) (by decide +kernel)
set_option maxRecDepth 20000 in
theorem gX6_symmetries_X6_isPolygon : GoodIn wsX6_symmetries (wsV RX6 102 RX6 yX6_isPolygon wsX6_isPolygon) := goodIn_app (goodIn_of _ (by decide +kernel)) ggX6_symmetries_X6_isPolygon
set_option maxRecDepth 20000 in
theorem ggX6_symmetries_X6_within : GoodIn wsX6_symmetries wsX6_within := goodIn_r _ [9] (by decide +kernel) (by decide +kernel)
set_option maxRecDepth 20000 in
theorem gX6_symmetries_X6_within : GoodIn wsX6_symmetries (va_wsS RX6 69 yX6_within wsX6_within) := goodIn_app (goodIn_of _ (by decide +kernel)) ggX6_symmetries_X6_within
set_option maxRecDepth 20000 in
theorem ggX6_symmetries_X6_fitting : GoodIn wsX6_symmetries wsX6_fitting := goodIn_r _ [13, 14, 15, 16, 17, 18, 4, 19, 20, 21, 22, 23, 24, 25, 26, 27, 28, 29, 30, 31, 32, 33, 34, 35, 36, 37, 38, 39, 40, 41, 42, 43, 44, 45, 46, 47, 48, 49, 50, 51, 52, 53, 54, 55, 56, 57, 58, 59, 60, 61, 62, 63, 64] (by decide +kernel) (by decide +kernel)
set_option maxRecDepth 20000 in
theorem gX6_symmetries_X6_fitting : GoodIn wsX6_symmetries (wsV RX6 184 RX6 yX6_fitting wsX6_fitting) := goodIn_app (goodIn_of _ (by decide +kernel)) ggX6_symmetries_X6_fitting
