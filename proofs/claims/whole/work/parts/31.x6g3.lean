set_option maxRecDepth 20000 in
theorem ggX6_parts_X6_layDiagonals : GoodIn wsX6_parts wsX6_layDiagonals := goodIn_r _ [15, 16, 17, 18, 19, 20, 1, 21, 22, 23, 2, 24, 25, 26, 6, 27, 28, 29, 30, 31, 32, 33, 34, 35, 36, 37, 38, 39, 40, 41, 42, 43, 44, 45, 46, 47, 48, 49, 50, 51, 52, 53, 54, 55, 56, 57, 58, 59, 60, 61, 62, 63, 64, 65, 66, 67, 68, 69, 70, 71, 72, 73, 74, 75, 76, 77, 78, 79, 80, 81, 82, 83, 84, 85, 86, 87, 88, 89, 90, 91, 92, 93, 94, 95, 96, 97, 98, 99, 100, 101, 102, 103, 104, 105, 106, 107, 108, 109, 110, 111, 112, 113, 114, 115, 116, 117] rfl (by decide +kernel)
set_option maxRecDepth 20000 in
theorem gX6_parts_X6_layDiagonals : GoodIn wsX6_parts (wsV RX6 170 RX6 yX6_layDiagonals wsX6_layDiagonals) := goodIn_app (goodIn_of _ (by decide +kernel)) ggX6_parts_X6_layDiagonals
