set_option maxRecDepth 20000 in
theorem ggL_law_X6_best : GoodIn wsL_law wsX6_best := goodIn_r _ [538, 88, 81, 348, 349, 350, 5, 351, 296, 121, 122, 123, 514, 515, 516, 517, 89, 87, 457, 458, 459, 460, 461, 462, 463, 464, 465, 466, 467, 468, 375, 376, 377, 378, 82, 379, 380, 381, 382, 83, 308, 309, 310, 301, 302, 303, 311, 312, 313, 314, 315, 316, 444, 445, 446, 447, 518, 519, 520, 521, 522, 523, 524, 525, 526, 527, 528, 529, 653, 654, 655, 656, 657, 658, 659, 660, 661, 662, 663, 664, 665, 666, 667, 668, 669, 670, 671, 672, 673, 674, 675, 676] (by decide +kernel) (by decide +kernel)
set_option maxRecDepth 20000 in
theorem gL_law_X6_best : GoodIn wsL_law (wsV RL 78 RX6 yX6_best wsX6_best) := goodIn_app (goodIn_of _ (by decide +kernel)) ggL_law_X6_best
set_option maxRecDepth 20000 in
theorem ggL_law_X5_triangle : GoodIn wsL_law wsX5_triangle := goodIn_r _ [542, 543, 544, 545, 340, 341, 342, 2, 343, 32, 29, 546, 243, 244, 31, 245, 62, 181, 688, 689, 690, 691, 692, 693, 694, 695, 696, 697, 698, 699, 647, 648, 649, 650, 651, 652, 677, 678, 679] (by decide +kernel) (by decide +kernel)
set_option maxRecDepth 20000 in
theorem gL_law_X5_triangle : GoodIn wsL_law (wsV RL 79 RX5 yX5_triangle wsX5_triangle) := goodIn_app (goodIn_of _ (by decide +kernel)) ggL_law_X5_triangle
set_option maxRecDepth 20000 in
theorem ggL_law_X6_triangle : GoodIn wsL_law wsX6_triangle := goodIn_r _ [550, 551, 90, 91, 92, 348, 349, 350, 5, 351, 296, 121, 122, 123, 552, 553, 554, 555, 93, 81, 88, 514, 515, 516, 517, 89, 87, 457, 458, 459, 460, 461, 462, 463, 464, 465, 466, 467, 468, 375, 376, 377, 378, 82, 379, 380, 381, 382, 83, 308, 309, 310, 301, 302, 303, 311, 312, 313, 314, 315, 316, 444, 445, 446, 447, 518, 519, 520, 521, 522, 523, 524, 525, 526, 527, 528, 529, 653, 654, 655, 656, 657, 658, 659, 660, 661, 662, 663, 664, 665, 666, 667, 668, 669, 670, 671, 672, 673, 674, 675, 676] (by decide +kernel) (by decide +kernel)
set_option maxRecDepth 20000 in
theorem gL_law_X6_triangle : GoodIn wsL_law (wsV RL 82 RX6 yX6_triangle wsX6_triangle) := goodIn_app (goodIn_of _ (by decide +kernel)) ggL_law_X6_triangle
