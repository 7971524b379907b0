set_option maxRecDepth 20000 in
theorem ggL_law_X5_triangulations : GoodIn wsL_law wsX5_triangulations := goodIn_r _ [508, 509, 340, 341, 342, 2, 343, 32, 29, 688, 689, 690, 691, 692, 693, 694, 695, 696, 697, 698, 699, 647, 648, 649, 650, 651, 652] (by decide +kernel) (by decide +kernel)
set_option maxRecDepth 20000 in
theorem gL_law_X5_triangulations : GoodIn wsL_law (wsV RL 71 RX5 yX5_triangulations wsX5_triangulations) := goodIn_app (goodIn_of _ (by decide +kernel)) ggL_law_X5_triangulations
set_option maxRecDepth 20000 in
theorem ggL_law_X6_triangulations : GoodIn wsL_law wsX6_triangulations := goodIn_r _ [513, 87, 81, 348, 349, 350, 5, 351, 296, 121, 122, 123, 514, 515, 516, 517, 89, 88, 457, 458, 459, 460, 461, 462, 463, 464, 465, 466, 467, 468, 375, 376, 377, 378, 82, 379, 380, 381, 382, 83, 308, 309, 310, 301, 302, 303, 311, 312, 313, 314, 315, 316, 444, 445, 446, 447, 518, 519, 520, 521, 522, 523, 524, 525, 526, 527, 528, 529, 653, 654, 655, 656, 657, 658, 659, 660, 661, 662, 663, 664, 665, 666, 667, 668, 669, 670, 671, 672, 673, 674, 675, 676] (by decide +kernel) (by decide +kernel)
set_option maxRecDepth 20000 in
theorem gL_law_X6_triangulations : GoodIn wsL_law (wsV RL 74 RX6 yX6_triangulations wsX6_triangulations) := goodIn_app (goodIn_of _ (by decide +kernel)) ggL_law_X6_triangulations
set_option maxRecDepth 20000 in
theorem ggL_law_X5_best : GoodIn wsL_law wsX5_best := goodIn_r _ [533, 534, 340, 341, 342, 2, 343, 32, 29, 688, 689, 690, 691, 692, 693, 694, 695, 696, 697, 698, 699, 647, 648, 649, 650, 651, 652] (by decide +kernel) (by decide +kernel)
set_option maxRecDepth 20000 in
theorem gL_law_X5_best : GoodIn wsL_law (wsV RL 75 RX5 yX5_best wsX5_best) := goodIn_app (goodIn_of _ (by decide +kernel)) ggL_law_X5_best
