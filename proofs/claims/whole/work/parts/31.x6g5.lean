set_option maxRecDepth 20000 in
theorem ggX6_same_X6_isPolygon : GoodIn wsX6_same wsX6_isPolygon := goodIn_r _ [5, 6, 7, 8, 4, 9, 41, 42, 43, 44, 45, 46, 47, 48, 49, 50, 51, 52, 53, 54, 55, 56, 57, 58, 59, 60, 61, 62, 63, 64] (by decide +kernel) (by decide +kernel)
set_option maxRecDepth 20000 in
theorem gX6_same_X6_isPolygon : GoodIn wsX6_same (wsV RX6 102 RX6 yX6_isPolygon wsX6_isPolygon) := goodIn_app (goodIn_of _ (by decide +kernel)) ggX6_same_X6_isPolygon
set_option maxRecDepth 20000 in
theorem ggX6_same_X6_fitting : GoodIn wsX6_same wsX6_fitting := goodIn_r _ [13, 14, 15, 16, 17, 18, 4, 19, 20, 21, 22, 23, 24, 25, 26, 27, 28, 29, 30, 31, 32, 33, 34, 35, 36, 37, 38, 39, 40, 41, 42, 43, 44, 45, 46, 47, 48, 49, 50, 51, 52, 53, 54, 55, 56, 57, 58, 59, 60, 61, 62, 63, 64] (by decide +kernel) (by decide +kernel)
set_option maxRecDepth 20000 in
theorem gX6_same_X6_fitting : GoodIn wsX6_same (wsV RX6 184 RX6 yX6_fitting wsX6_fitting) := goodIn_app (goodIn_of _ (by decide +kernel)) ggX6_same_X6_fitting
set_option maxRecDepth 20000 in
theorem ggX6_onto_X6_isPolygon : GoodIn wsX6_onto wsX6_isPolygon := goodIn_r _ [6, 7, 8, 9, 5, 10, 41, 42, 43, 44, 45, 46, 47, 48, 49, 50, 51, 52, 53, 54, 55, 56, 57, 58, 59, 60, 61, 62, 63, 64] (by decide +kernel) (by decide +kernel)
set_option maxRecDepth 20000 in
theorem gX6_onto_X6_isPolygon : GoodIn wsX6_onto (wsV RX6 102 RX6 yX6_isPolygon wsX6_isPolygon) := goodIn_app (goodIn_of _ (by decide +kernel)) ggX6_onto_X6_isPolygon
set_option maxRecDepth 20000 in
theorem ggX6_onto_X6_fitting : GoodIn wsX6_onto wsX6_fitting := goodIn_r _ [14, 1, 15, 16, 17, 18, 5, 19, 20, 21, 22, 23, 24, 25, 26, 27, 28, 29, 30, 31, 32, 33, 34, 35, 36, 37, 38, 39, 40, 41, 42, 43, 44, 45, 46, 47, 48, 49, 50, 51, 52, 53, 54, 55, 56, 57, 58, 59, 60, 61, 62, 63, 64] (by decide +kernel) (by decide +kernel)
set_option maxRecDepth 20000 in
theorem gX6_onto_X6_fitting : GoodIn wsX6_onto (wsV RX6 184 RX6 yX6_fitting wsX6_fitting) := goodIn_app (goodIn_of _ (by decide +kernel)) ggX6_onto_X6_fitting
set_option maxRecDepth 20000 in
theorem ggX6_symmetries_X6_isPolygon : GoodIn wsX6_symmetries wsX6_isPolygon := goodIn_r _ [5, 6, 7, 8, 4, 9, 41, 42, 43, 44, 45, 46, 47, 48, 49, 50, 51, 52, 53, 54, 55, 56, 57, 58, 59, 60, 61, 62, 63, 64] (by decide +kernel) (by decide +kernel)
set_option maxRecDepth 20000 in
theorem gX6_symmetries_X6_isPolygon : GoodIn wsX6_symmetries (wsV RX6 102 RX6 yX6_isPolygon wsX6_isPolygon) := goodIn_app (goodIn_of _ (by decide +kernel)) ggX6_symmetries_X6_isPolygon
set_option maxRecDepth 20000 in
theorem ggX6_symmetries_X6_within : GoodIn wsX6_symmetries wsX6_within := goodIn_r _ [9] (by decide +kernel) (by decide +kernel)
set_option maxRecDepth 20000 in
theorem gX6_symmetries_X6_within : GoodIn wsX6_symmetries (va_wsS RX6 69 yX6_within wsX6_within) := goodIn_app (goodIn_of _ (by decide +kernel)) ggX6_symmetries_X6_within
set_option maxRecDepth 20000 in
theorem ggX6_symmetries_X6_fitting : GoodIn wsX6_symmetries wsX6_fitting := goodIn_r _ [13, 14, 15, 16, 17, 18, 4, 19, 20, 21, 22, 23, 24, 25, 26, 27, 28, 29, 30, 31, 32, 33, 34, 35, 36, 37, 38, 39, 40, 41, 42, 43, 44, 45, 46, 47, 48, 49, 50, 51, 52, 53, 54, 55, 56, 57, 58, 59, 60, 61, 62, 63, 64] (by decide +kernel) (by decide +kernel)
set_option maxRecDepth 20000 in
theorem gX6_symmetries_X6_fitting : GoodIn wsX6_symmetries (wsV RX6 184 RX6 yX6_fitting wsX6_fitting) := goodIn_app (goodIn_of _ (by decide +kernel)) ggX6_symmetries_X6_fitting
