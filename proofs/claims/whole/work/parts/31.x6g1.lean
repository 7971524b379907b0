set_option maxRecDepth 20000 in
theorem ggX6_diagonal_X6_isPolygon : GoodIn wsX6_diagonal wsX6_isPolygon := goodIn_r _ [9, 10, 11, 12, 8, 13, 94, 95, 96, 97, 98, 99, 100, 101, 102, 103, 104, 105, 106, 107, 108, 109, 110, 111, 112, 113, 114, 115, 116, 117] (by decide +kernel) (by decide +kernel)
set_option maxRecDepth 20000 in
theorem gX6_diagonal_X6_isPolygon : GoodIn wsX6_diagonal (wsV RX6 102 RX6 yX6_isPolygon wsX6_isPolygon) := goodIn_app (goodIn_of _ (by decide +kernel)) ggX6_diagonal_X6_isPolygon
set_option maxRecDepth 20000 in
theorem ggX6_diagonal_X6_within : GoodIn wsX6_diagonal wsX6_within := goodIn_r _ [13] (by decide +kernel) (by decide +kernel)
set_option maxRecDepth 20000 in
theorem gX6_diagonal_X6_within : GoodIn wsX6_diagonal (va_wsS RX6 69 yX6_within wsX6_within) := goodIn_app (goodIn_of _ (by decide +kernel)) ggX6_diagonal_X6_within
set_option maxRecDepth 20000 in
theorem ggX6_parts_X6_isPolygon : GoodIn wsX6_parts wsX6_isPolygon := goodIn_r _ [7, 8, 9, 10, 6, 11, 94, 95, 96, 97, 98, 99, 100, 101, 102, 103, 104, 105, 106, 107, 108, 109, 110, 111, 112, 113, 114, 115, 116, 117] (by decide +kernel) (by decide +kernel)
set_option maxRecDepth 20000 in
theorem gX6_parts_X6_isPolygon : GoodIn wsX6_parts (wsV RX6 102 RX6 yX6_isPolygon wsX6_isPolygon) := goodIn_app (goodIn_of _ (by decide +kernel)) ggX6_parts_X6_isPolygon
