set_option maxRecDepth 20000 in
theorem ggL_law_X5_triangulations : GoodIn wsL_law wsX5_triangulations := goodIn_r _ [508, 509, 340, 341, 342, 2, 343, 32, 29, 688, 689, 690, 691, 692, 693, 694, 695, 696, 697, 698, 699, 647, 648, 649, 650, 651, 652] (by decide +kernel) (by decide +kernel)
set_option maxRecDepth 20000 in
theorem gL_law_X5_triangulations : GoodIn wsL_law (wsV RL 71 RX5 yX5_triangulations wsX5_triangulations) := goodIn_app (goodIn_of _ (by decide +kernel)) ggL_law_X5_triangulations
set_option maxRecDepth 20000 in
theorem ggL_law_X6_triangulations : GoodIn wsL_law wsX6_triangulations := goodIn_r _ [513, 87, 81, 348, 349, 350, 5, 351, 296, 121, 122, 123, 514, 515, 516, 517, 89, 88, 457, 458, 459, 460, 461, 462, 463, 464, 465, 466, 467, 468, 375, 376, 377, 378, 82, 379, 380, 381, 382, 83, 308, 309, 310, 301, 302, 303, 311, 312, 313, 314, 315, 316, 444, 445, 446, 447, 518, 519, 520, 521, 522, 523, 524, 525, 526, 527, 528, 529, 653, 654, 655, 656, 657, 658, 659, 660, 661, 662, 663, 664, 665, 666, 667, 668, 669, 670, 671, 672, 673, 674, 675, 676] (by decide +kernel) (by decide +kernel)
set_option maxRecDepth 20000 in
theorem gL_law_X6_triangulations : GoodIn wsL_law (wsV RL 74 RX6 yX6_triangulations wsX6_triangulations) := goodIn_app (goodIn_of _ (by decide +kernel)) ggL_law_X6_triangulations
set_option maxRecDepth 20000 in
theorem ggL_law_X5_best : GoodIn wsL_law wsX5_best := goodIn_r _ [533, 534, 340, 341, 342, 2, 343, 32, 29, 688, 689, 690, 691, 692, 693, 694, 695, 696, 697, 698, 699, 647, 648, 649, 650, 651, 652] (by decide +kernel) (by decide +kernel)
set_option maxRecDepth 20000 in
theorem gL_law_X5_best : GoodIn wsL_law (wsV RL 75 RX5 yX5_best wsX5_best) := goodIn_app (goodIn_of _ (by decide +kernel)) ggL_law_X5_best
set_option maxRecDepth 20000 in
theorem ggL_law_X6_best : GoodIn wsL_law wsX6_best := goodIn_r _ [538, 88, 81, 348, 349, 350, 5, 351, 296, 121, 122, 123, 514, 515, 516, 517, 89, 87, 457, 458, 459, 460, 461, 462, 463, 464, 465, 466, 467, 468, 375, 376, 377, 378, 82, 379, 380, 381, 382, 83, 308, 309, 310, 301, 302, 303, 311, 312, 313, 314, 315, 316, 444, 445, 446, 447, 518, 519, 520, 521, 522, 523, 524, 525, 526, 527, 528, 529, 653, 654, 655, 656, 657, 658, 659, 660, 661, 662, 663, 664, 665, 666, 667, 668, 669, 670, 671, 672, 673, 674, 675, 676] (by decide +kernel) (by decide +kernel)
set_option maxRecDepth 20000 in
theorem gL_law_X6_best : GoodIn wsL_law (wsV RL 78 RX6 yX6_best wsX6_best) := goodIn_app (goodIn_of _ (by decide +kernel)) ggL_law_X6_best
set_option maxRecDepth 20000 in
theorem ggL_law_X5_triangle : GoodIn wsL_law wsX5_triangle := goodIn_r _ [542, 543, 544, 545, 340, 341, 342, 2, 343, 32, 29, 546, 243, 244, 31, 245, 62, 181, 688, 689, 690, 691, 692, 693, 694, 695, 696, 697, 698, 699, 647, 648, 649, 650, 651, 652, 677, 678, 679] (by decide +kernel) (by decide +kernel)
set_option maxRecDepth 20000 in
theorem gL_law_X5_triangle : GoodIn wsL_law (wsV RL 79 RX5 yX5_triangle wsX5_triangle) := goodIn_app (goodIn_of _ (by decide +kernel)) ggL_law_X5_triangle
set_option maxRecDepth 20000 in
theorem ggL_law_X6_triangle : GoodIn wsL_law wsX6_triangle := goodIn_r _ [550, 551, 90, 91, 92, 348, 349, 350, 5, 351, 296, 121, 122, 123, 552, 553, 554, 555, 93, 81, 88, 514, 515, 516, 517, 89, 87, 457, 458, 459, 460, 461, 462, 463, 464, 465, 466, 467, 468, 375, 376, 377, 378, 82, 379, 380, 381, 382, 83, 308, 309, 310, 301, 302, 303, 311, 312, 313, 314, 315, 316, 444, 445, 446, 447, 518, 519, 520, 521, 522, 523, 524, 525, 526, 527, 528, 529, 653, 654, 655, 656, 657, 658, 659, 660, 661, 662, 663, 664, 665, 666, 667, 668, 669, 670, 671, 672, 673, 674, 675, 676] (by decide +kernel) (by decide +kernel)
set_option maxRecDepth 20000 in
theorem gL_law_X6_triangle : GoodIn wsL_law (wsV RL 82 RX6 yX6_triangle wsX6_triangle) := goodIn_app (goodIn_of _ (by decide +kernel)) ggL_law_X6_triangle
set_option maxRecDepth 20000 in
theorem ggL_law_X5_diagonal : GoodIn wsL_law wsX5_diagonal := goodIn_r _ [559, 560, 561, 562, 340, 341, 342, 2, 343, 32, 29, 563, 260, 261, 31, 262, 62, 181, 688, 689, 690, 691, 692, 693, 694, 695, 696, 697, 698, 699, 647, 648, 649, 650, 651, 652, 677, 678, 679] (by decide +kernel) (by decide +kernel)
set_option maxRecDepth 20000 in
theorem gL_law_X5_diagonal : GoodIn wsL_law (wsV RL 83 RX5 yX5_diagonal wsX5_diagonal) := goodIn_app (goodIn_of _ (by decide +kernel)) ggL_law_X5_diagonal
set_option maxRecDepth 20000 in
theorem ggL_law_X6_diagonal : GoodIn wsL_law wsX6_diagonal := goodIn_r _ [567, 568, 94, 95, 97, 348, 349, 350, 5, 351, 296, 121, 122, 123, 569, 570, 571, 572, 98, 551, 90, 91, 92, 81, 552, 553, 554, 555, 93, 88, 514, 515, 516, 517, 89, 87, 457, 458, 459, 460, 461, 462, 463, 464, 465, 466, 467, 468, 375, 376, 377, 378, 82, 379, 380, 381, 382, 83, 308, 309, 310, 301, 302, 303, 311, 312, 313, 314, 315, 316, 444, 445, 446, 447, 518, 519, 520, 521, 522, 523, 524, 525, 526, 527, 528, 529, 573, 574, 575, 576, 392, 393, 394, 395, 653, 654, 655, 656, 657, 658, 659, 660, 661, 662, 663, 664, 665, 666, 667, 668, 669, 670, 671, 672, 673, 674, 675, 676] (by decide +kernel) (by decide +kernel)
set_option maxRecDepth 20000 in
theorem gL_law_X6_diagonal : GoodIn wsL_law (wsV RL 86 RX6 yX6_diagonal wsX6_diagonal) := goodIn_app (goodIn_of _ (by decide +kernel)) ggL_law_X6_diagonal
set_option maxRecDepth 20000 in
theorem ggL_law_X5_parts : GoodIn wsL_law wsX5_parts := goodIn_r _ [580, 581, 340, 341, 342, 2, 343, 32, 29, 688, 689, 690, 691, 692, 693, 694, 695, 696, 697, 698, 699, 647, 648, 649, 650, 651, 652] (by decide +kernel) (by decide +kernel)
set_option maxRecDepth 20000 in
theorem gL_law_X5_parts : GoodIn wsL_law (wsV RL 87 RX5 yX5_parts wsX5_parts) := goodIn_app (goodIn_of _ (by decide +kernel)) ggL_law_X5_parts
set_option maxRecDepth 20000 in
theorem ggL_law_X6_parts : GoodIn wsL_law wsX6_parts := goodIn_r _ [585, 568, 97, 348, 349, 350, 5, 351, 296, 121, 122, 123, 569, 570, 571, 572, 98, 551, 90, 91, 92, 81, 94, 95, 552, 553, 554, 555, 93, 88, 514, 515, 516, 517, 89, 87, 457, 458, 459, 460, 461, 462, 463, 464, 465, 466, 467, 468, 375, 376, 377, 378, 82, 379, 380, 381, 382, 83, 308, 309, 310, 301, 302, 303, 311, 312, 313, 314, 315, 316, 444, 445, 446, 447, 518, 519, 520, 521, 522, 523, 524, 525, 526, 527, 528, 529, 573, 574, 575, 576, 392, 393, 394, 395, 653, 654, 655, 656, 657, 658, 659, 660, 661, 662, 663, 664, 665, 666, 667, 668, 669, 670, 671, 672, 673, 674, 675, 676] (by decide +kernel) (by decide +kernel)
set_option maxRecDepth 20000 in
theorem gL_law_X6_parts : GoodIn wsL_law (wsV RL 90 RX6 yX6_parts wsX6_parts) := goodIn_app (goodIn_of _ (by decide +kernel)) ggL_law_X6_parts
set_option maxRecDepth 20000 in
theorem ggL_law_X5_same : GoodIn wsL_law wsX5_same := goodIn_r _ [589, 340, 341, 342, 2, 343, 32, 29, 590, 591, 592, 31, 593, 62, 181, 594, 595, 596, 597, 598, 285, 286, 287, 65, 196, 147, 148, 14, 149, 39, 599, 143, 144, 145, 600, 601, 602, 603, 604, 232, 233, 234, 37, 38, 605, 151, 152, 153, 606, 607, 608, 609, 647, 648, 649, 650, 651, 652, 688, 689, 690, 691, 692, 693, 694, 695, 696, 697, 698, 699, 677, 678, 679] (by decide +kernel) (by decide +kernel)
set_option maxRecDepth 20000 in
theorem gL_law_X5_same : GoodIn wsL_law (wsV RL 91 RX5 yX5_same wsX5_same) := goodIn_app (goodIn_of _ (by decide +kernel)) ggL_law_X5_same
set_option maxRecDepth 20000 in
theorem ggL_law_X6_same : GoodIn wsL_law wsX6_same := goodIn_r _ [613, 348, 349, 350, 5, 351, 296, 121, 122, 123, 614, 615, 616, 617, 618, 81, 619, 620, 621, 622, 623, 624, 625, 626, 375, 376, 377, 378, 82, 379, 380, 381, 382, 83, 301, 302, 303, 518, 519, 520, 521, 653, 654, 655, 656, 657, 658, 659, 660, 661, 662, 663, 664, 665, 666, 667, 668, 669, 670, 671, 672, 673, 674, 675, 676] (by decide +kernel) (by decide +kernel)
set_option maxRecDepth 20000 in
theorem gL_law_X6_same : GoodIn wsL_law (wsV RL 94 RX6 yX6_same wsX6_same) := goodIn_app (goodIn_of _ (by decide +kernel)) ggL_law_X6_same
set_option maxRecDepth 20000 in
theorem ggL_law_X5_onto : GoodIn wsL_law wsX5_onto := goodIn_r _ [630, 340, 341, 342, 2, 343, 32, 29, 590, 591, 592, 31, 593, 62, 181, 594, 595, 596, 597, 598, 285, 286, 287, 65, 196, 147, 148, 14, 149, 39, 599, 143, 144, 145, 600, 601, 602, 603, 604, 232, 233, 234, 37, 38, 605, 151, 152, 153, 606, 607, 608, 609, 647, 648, 649, 650, 651, 652, 688, 689, 690, 691, 692, 693, 694, 695, 696, 697, 698, 699, 677, 678, 679] (by decide +kernel) (by decide +kernel)
set_option maxRecDepth 20000 in
theorem gL_law_X5_onto : GoodIn wsL_law (wsV RL 95 RX5 yX5_onto wsX5_onto) := goodIn_app (goodIn_of _ (by decide +kernel)) ggL_law_X5_onto
set_option maxRecDepth 20000 in
theorem ggL_law_X6_onto : GoodIn wsL_law wsX6_onto := goodIn_r _ [634, 618, 348, 349, 350, 5, 351, 296, 121, 122, 123, 614, 615, 616, 617, 81, 619, 620, 621, 622, 623, 624, 625, 626, 375, 376, 377, 378, 82, 379, 380, 381, 382, 83, 301, 302, 303, 518, 519, 520, 521, 653, 654, 655, 656, 657, 658, 659, 660, 661, 662, 663, 664, 665, 666, 667, 668, 669, 670, 671, 672, 673, 674, 675, 676] (by decide +kernel) (by decide +kernel)
set_option maxRecDepth 20000 in
theorem gL_law_X6_onto : GoodIn wsL_law (wsV RL 98 RX6 yX6_onto wsX6_onto) := goodIn_app (goodIn_of _ (by decide +kernel)) ggL_law_X6_onto
