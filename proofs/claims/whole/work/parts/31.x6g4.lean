set_option maxRecDepth 20000 in
theorem ggX6_fits_X6_go : GoodIn wsX6_fits wsX6_go := goodIn_r _ [6, 1, 24, 25, 26, 27, 28, 29, 30, 31, 32, 33, 34, 35, 36, 37, 38, 39, 40, 41, 42, 43, 44, 45, 46, 47] (by decide +kernel) (by decide +kernel)
set_option maxRecDepth 20000 in
theorem gX6_fits_X6_go : GoodIn wsX6_fits (wsV RX6 173 RX6 yX6_go wsX6_go) := goodIn_app (goodIn_of _ (by decide +kernel)) ggX6_fits_X6_go
set_option maxRecDepth 20000 in
theorem ggX6_fits_X6_xOf : GoodIn wsX6_fits wsX6_xOf := goodIn_r _ [10, 11, 1, 24, 25, 26, 27, 28, 29, 30, 31, 32, 33, 34, 35, 36, 37, 38, 39, 40, 41, 42, 43, 44, 45, 46, 47] (by decide +kernel) (by decide +kernel)
set_option maxRecDepth 20000 in
theorem gX6_fits_X6_xOf : GoodIn wsX6_fits (wsV RX6 110 RX6 yX6_xOf wsX6_xOf) := goodIn_app (goodIn_of _ (by decide +kernel)) ggX6_fits_X6_xOf
set_option maxRecDepth 20000 in
theorem ggX6_fits_X6_yOf : GoodIn wsX6_fits wsX6_yOf := goodIn_r _ [15, 16, 1, 24, 25, 26, 27, 28, 29, 30, 31, 32, 33, 34, 35, 36, 37, 38, 39, 40, 41, 42, 43, 44, 45, 46, 47] (by decide +kernel) (by decide +kernel)
set_option maxRecDepth 20000 in
theorem gX6_fits_X6_yOf : GoodIn wsX6_fits (wsV RX6 114 RX6 yX6_yOf wsX6_yOf) := goodIn_app (goodIn_of _ (by decide +kernel)) ggX6_fits_X6_yOf
set_option maxRecDepth 20000 in
theorem ggX6_fits_X6_turn : GoodIn wsX6_fits wsX6_turn := goodIn_r _ [19] (by decide +kernel) (by decide +kernel)
set_option maxRecDepth 20000 in
theorem gX6_fits_X6_turn : GoodIn wsX6_fits (va_wsS RX6 76 yX6_turn wsX6_turn) := goodIn_app (goodIn_of _ (by decide +kernel)) ggX6_fits_X6_turn
set_option maxRecDepth 20000 in
theorem ggX6_fits_X6_square : GoodIn wsX6_fits wsX6_square := goodIn_r _ [23, 7, 8, 9, 5, 10, 11, 1, 12, 13, 14, 15, 16, 24, 25, 26, 27, 28, 29, 30, 31, 32, 33, 34, 35, 36, 37, 38, 39, 40, 41, 42, 43, 44, 45, 46, 47] (by decide +kernel) (by decide +kernel)
set_option maxRecDepth 20000 in
theorem gX6_fits_X6_square : GoodIn wsX6_fits (wsV RX6 144 RX6 yX6_square wsX6_square) := goodIn_app (goodIn_of _ (by decide +kernel)) ggX6_fits_X6_square
set_option maxRecDepth 20000 in
theorem ggX6_fitting_X6_fits : GoodIn wsX6_fitting wsX6_fits := goodIn_r _ [7, 2, 8, 9, 10, 6, 11, 12, 13, 14, 15, 16, 17, 18, 19, 20, 21, 22, 23, 24, 25, 26, 27, 28, 29, 30, 31, 32, 33, 34, 35, 36, 37, 38, 39, 40, 41, 42, 43, 44, 45, 46, 47, 48, 49, 50, 51, 52] (by decide +kernel) (by decide +kernel)
set_option maxRecDepth 20000 in
theorem gX6_fitting_X6_fits : GoodIn wsX6_fitting (wsV RX6 180 RX6 yX6_fits wsX6_fits) := goodIn_app (goodIn_of _ (by decide +kernel)) ggX6_fitting_X6_fits
