set_option maxRecDepth 20000 in
theorem gq_X6_parts_c : GoodIn wsL_law [Cond.code yX6_parts cX6_parts 4 (some .int)] := goodIn_r _ [585] (by decide +kernel) (by decide +kernel)
set_option maxRecDepth 20000 in
theorem gq_X6_parts_0 : GoodIn wsL_law wsX6_parts_r1 := goodIn_r _ [568, 97, 348, 349, 350, 5, 351, 296, 121, 122, 123, 569, 570, 571, 572, 98, 551, 90, 91, 92, 81, 94, 95, 552] (by decide +kernel) (by decide +kernel)
set_option maxRecDepth 20000 in
theorem gq_X6_parts_1 : GoodIn wsL_law wsX6_parts_r2 := goodIn_r _ [553, 554, 555, 93, 88, 514, 515, 516, 517, 89, 87, 457, 458, 459, 460, 461, 462, 463, 464, 465, 466, 467, 468, 375] (by decide +kernel) (by decide +kernel)
set_option maxRecDepth 20000 in
theorem gq_X6_parts_2 : GoodIn wsL_law wsX6_parts_r3 := goodIn_r _ [376, 377, 378, 82, 379, 380, 381, 382, 83, 308, 309, 310, 301, 302, 303, 311, 312, 313, 314, 315, 316, 444, 445, 446] (by decide +kernel) (by decide +kernel)
set_option maxRecDepth 20000 in
theorem gq_X6_parts_3 : GoodIn wsL_law wsX6_parts_r4 := goodIn_r _ [447, 518, 519, 520, 521, 522, 523, 524, 525, 526, 527, 528, 529, 573, 574, 575, 576, 392, 393, 394, 395] (by decide +kernel) (by decide +kernel)
theorem ggL_law_X6_parts : GoodIn wsL_law wsX6_parts := goodIn_app gq_X6_parts_c (goodIn_app (goodIn_app gq_X6_parts_0 (goodIn_app gq_X6_parts_1 (goodIn_app gq_X6_parts_2 (gq_X6_parts_3)))) gq_X60)
set_option maxRecDepth 20000 in
theorem gL_law_X6_parts : GoodIn wsL_law (wsV RL 90 RX6 yX6_parts wsX6_parts) := goodIn_app (goodIn_of _ (by decide +kernel)) ggL_law_X6_parts
set_option maxRecDepth 20000 in
theorem ggL_law_X5_same : GoodIn wsL_law wsX5_same := goodIn_r _ [589, 340, 341, 342, 2, 343, 32, 29, 590, 591, 592, 31, 593, 62, 181, 594, 595, 596, 597, 598, 285, 286, 287, 65, 196, 147, 148, 14, 149, 39, 599, 143, 144, 145, 600, 601, 602, 603, 604, 232, 233, 234, 37, 38, 605, 151, 152, 153, 606, 607, 608, 609, 647, 648, 649, 650, 651, 652, 688, 689, 690, 691, 692, 693, 694, 695, 696, 697, 698, 699, 677, 678, 679] (by decide +kernel) (by decide +kernel)
set_option maxRecDepth 20000 in
theorem gL_law_X5_same : GoodIn wsL_law (wsV RL 91 RX5 yX5_same wsX5_same) := goodIn_app (goodIn_of _ (by decide +kernel)) ggL_law_X5_same
set_option maxRecDepth 20000 in
theorem ggL_law_X6_same : GoodIn wsL_law wsX6_same := goodIn_r _ [613, 348, 349, 350, 5, 351, 296, 121, 122, 123, 614, 615, 616, 617, 618, 81, 619, 620, 621, 622, 623, 624, 625, 626, 375, 376, 377, 378, 82, 379, 380, 381, 382, 83, 301, 302, 303, 518, 519, 520, 521, 653, 654, 655, 656, 657, 658, 659, 660, 661, 662, 663, 664, 665, 666, 667, 668, 669, 670, 671, 672, 673, 674, 675, 676] (by decide +kernel) (by decide +kernel)
set_option maxRecDepth 20000 in
theorem gL_law_X6_same : GoodIn wsL_law (wsV RL 94 RX6 yX6_same wsX6_same) := goodIn_app (goodIn_of _ (by decide +kernel)) ggL_law_X6_same
