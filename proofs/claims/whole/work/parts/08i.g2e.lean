set_option maxRecDepth 20000 in
theorem ggL_law_X5_onto : GoodIn wsL_law wsX5_onto := goodIn_r _ [630, 340, 341, 342, 2, 343, 32, 29, 590, 591, 592, 31, 593, 62, 181, 594, 595, 596, 597, 598, 285, 286, 287, 65, 196, 147, 148, 14, 149, 39, 599, 143, 144, 145, 600, 601, 602, 603, 604, 232, 233, 234, 37, 38, 605, 151, 152, 153, 606, 607, 608, 609, 647, 648, 649, 650, 651, 652, 688, 689, 690, 691, 692, 693, 694, 695, 696, 697, 698, 699, 677, 678, 679] (by decide +kernel) (by decide +kernel)
set_option maxRecDepth 20000 in
theorem gL_law_X5_onto : GoodIn wsL_law (wsV RL 95 RX5 yX5_onto wsX5_onto) := goodIn_app (goodIn_of _ (by decide +kernel)) ggL_law_X5_onto
set_option maxRecDepth 20000 in
theorem ggL_law_X6_onto : GoodIn wsL_law wsX6_onto := goodIn_r _ [634, 618, 348, 349, 350, 5, 351, 296, 121, 122, 123, 614, 615, 616, 617, 81, 619, 620, 621, 622, 623, 624, 625, 626, 375, 376, 377, 378, 82, 379, 380, 381, 382, 83, 301, 302, 303, 518, 519, 520, 521, 653, 654, 655, 656, 657, 658, 659, 660, 661, 662, 663, 664, 665, 666, 667, 668, 669, 670, 671, 672, 673, 674, 675, 676] (by decide +kernel) (by decide +kernel)
set_option maxRecDepth 20000 in
theorem gL_law_X6_onto : GoodIn wsL_law (wsV RL 98 RX6 yX6_onto wsX6_onto) := goodIn_app (goodIn_of _ (by decide +kernel)) ggL_law_X6_onto
