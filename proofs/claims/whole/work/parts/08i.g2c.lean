theorem inlX5 : ∀ w ∈ wsX50, w ∈ wsL_law := fun _ h => List.mem_append_left _ (List.mem_append_left _ (List.mem_append_left _ (List.mem_append_left _ (List.mem_append_left _ (List.mem_append_left _ (List.mem_append_left _ (List.mem_append_right _ h)))))))
theorem inlX6 : ∀ w ∈ wsX60, w ∈ wsL_law := fun _ h => List.mem_append_left _ (List.mem_append_left _ (List.mem_append_left _ (List.mem_append_left _ (List.mem_append_left _ (List.mem_append_left _ (List.mem_append_right _ h))))))
theorem gq_X60 : GoodIn wsL_law wsX60 := goodIn_sub inlX6 (by decide +kernel)
set_option maxRecDepth 20000 in
theorem ggL_law_X5_diagonal : GoodIn wsL_law wsX5_diagonal := goodIn_r _ [559, 560, 561, 562, 340, 341, 342, 2, 343, 32, 29, 563, 260, 261, 31, 262, 62, 181, 688, 689, 690, 691, 692, 693, 694, 695, 696, 697, 698, 699, 647, 648, 649, 650, 651, 652, 677, 678, 679] (by decide +kernel) (by decide +kernel)
set_option maxRecDepth 20000 in
theorem gL_law_X5_diagonal : GoodIn wsL_law (wsV RL 83 RX5 yX5_diagonal wsX5_diagonal) := goodIn_app (goodIn_of _ (by decide +kernel)) ggL_law_X5_diagonal
set_option maxRecDepth 20000 in
theorem gq_X6_diagonal_c : GoodIn wsL_law [Cond.code yX6_diagonal cX6_diagonal 4 (some .int)] := goodIn_r _ [567] (by decide +kernel) (by decide +kernel)
set_option maxRecDepth 20000 in
theorem gq_X6_diagonal_0 : GoodIn wsL_law wsX6_diagonal_r1 := goodIn_r _ [568, 94, 95, 97, 348, 349, 350, 5, 351, 296, 121, 122, 123, 569, 570, 571, 572, 98, 551, 90, 91, 92, 81, 552] (by decide +kernel) (by decide +kernel)
set_option maxRecDepth 20000 in
theorem gq_X6_diagonal_1 : GoodIn wsL_law wsX6_diagonal_r2 := goodIn_r _ [553, 554, 555, 93, 88, 514, 515, 516, 517, 89, 87, 457, 458, 459, 460, 461, 462, 463, 464, 465, 466, 467, 468, 375] (by decide +kernel) (by decide +kernel)
set_option maxRecDepth 20000 in
theorem gq_X6_diagonal_2 : GoodIn wsL_law wsX6_diagonal_r3 := goodIn_r _ [376, 377, 378, 82, 379, 380, 381, 382, 83, 308, 309, 310, 301, 302, 303, 311, 312, 313, 314, 315, 316, 444, 445, 446] (by decide +kernel) (by decide +kernel)
set_option maxRecDepth 20000 in
theorem gq_X6_diagonal_3 : GoodIn wsL_law wsX6_diagonal_r4 := goodIn_r _ [447, 518, 519, 520, 521, 522, 523, 524, 525, 526, 527, 528, 529, 573, 574, 575, 576, 392, 393, 394, 395] (by decide +kernel) (by decide +kernel)
theorem ggL_law_X6_diagonal : GoodIn wsL_law wsX6_diagonal := goodIn_app gq_X6_diagonal_c (goodIn_app (goodIn_app gq_X6_diagonal_0 (goodIn_app gq_X6_diagonal_1 (goodIn_app gq_X6_diagonal_2 (gq_X6_diagonal_3)))) gq_X60)
set_option maxRecDepth 20000 in
theorem gL_law_X6_diagonal : GoodIn wsL_law (wsV RL 86 RX6 yX6_diagonal wsX6_diagonal) := goodIn_app (goodIn_of _ (by decide +kernel)) ggL_law_X6_diagonal
set_option maxRecDepth 20000 in
theorem ggL_law_X5_parts : GoodIn wsL_law wsX5_parts := goodIn_r _ [580, 581, 340, 341, 342, 2, 343, 32, 29, 688, 689, 690, 691, 692, 693, 694, 695, 696, 697, 698, 699, 647, 648, 649, 650, 651, 652] (by decide +kernel) (by decide +kernel)
set_option maxRecDepth 20000 in
theorem gL_law_X5_parts : GoodIn wsL_law (wsV RL 87 RX5 yX5_parts wsX5_parts) := goodIn_app (goodIn_of _ (by decide +kernel)) ggL_law_X5_parts
