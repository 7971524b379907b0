set_option maxRecDepth 20000 in
theorem ggL_law_X5_area : GoodIn wsL_law wsX5_area := goodIn_r _ [386, 387, 340, 341, 342, 2, 343, 32, 29, 688, 689, 690, 691, 692, 693, 694, 695, 696, 697, 698, 699, 647, 648, 649, 650, 651, 652] (by decide +kernel) (by decide +kernel)
set_option maxRecDepth 20000 in
theorem gL_law_X5_area : GoodIn wsL_law (wsV RL 41 RX5 yX5_area wsX5_area) := goodIn_app (goodIn_of _ (by decide +kernel)) ggL_law_X5_area
set_option maxRecDepth 20000 in
theorem ggL_law_X6_area : GoodIn wsL_law wsX6_area := goodIn_r _ [391, 348, 349, 350, 5, 351, 296, 121, 122, 123, 392, 393, 394, 395, 81, 375, 376, 377, 378, 82, 379, 380, 381, 382, 83, 301, 302, 303, 653, 654, 655, 656, 657, 658, 659, 660, 661, 662, 663, 664, 665, 666, 667, 668, 669, 670, 671, 672, 673, 674, 675, 676] (by decide +kernel) (by decide +kernel)
set_option maxRecDepth 20000 in
theorem gL_law_X6_area : GoodIn wsL_law (wsV RL 44 RX6 yX6_area wsX6_area) := goodIn_app (goodIn_of _ (by decide +kernel)) ggL_law_X6_area
set_option maxRecDepth 20000 in
theorem ggL_law_X5_centroid : GoodIn wsL_law wsX5_centroid := goodIn_r _ [399, 400, 387, 340, 341, 342, 2, 343, 32, 29, 360, 361, 362, 401, 402, 403, 31, 404, 62, 181, 405, 364, 365, 14, 366, 37, 38, 196, 147, 148, 149, 39, 190, 191, 192, 193, 194, 195, 406, 407, 408, 409, 410, 167, 411, 688, 689, 690, 691, 692, 693, 694, 695, 696, 697, 698, 699, 647, 648, 649, 650, 651, 652, 677, 678, 679] (by decide +kernel) (by decide +kernel)
set_option maxRecDepth 20000 in
theorem gL_law_X5_centroid : GoodIn wsL_law (wsV RL 45 RX5 yX5_centroid wsX5_centroid) := goodIn_app (goodIn_of _ (by decide +kernel)) ggL_law_X5_centroid
set_option maxRecDepth 20000 in
theorem ggL_law_X6_centroid : GoodIn wsL_law wsX6_centroid := goodIn_r _ [415, 81, 416, 348, 349, 350, 5, 351, 296, 121, 122, 123, 375, 376, 377, 378, 82, 379, 380, 381, 382, 83, 301, 302, 303, 392, 393, 394, 395, 417, 418, 419, 653, 654, 655, 656, 657, 658, 659, 660, 661, 662, 663, 664, 665, 666, 667, 668, 669, 670, 671, 672, 673, 674, 675, 676] (by decide +kernel) (by decide +kernel)
set_option maxRecDepth 20000 in
theorem gL_law_X6_centroid : GoodIn wsL_law (wsV RL 49 RX6 yX6_centroid wsX6_centroid) := goodIn_app (goodIn_of _ (by decide +kernel)) ggL_law_X6_centroid
set_option maxRecDepth 20000 in
theorem ggL_law_X5_points : GoodIn wsL_law wsX5_points := goodIn_r _ [423, 387, 424, 425, 167, 426, 340, 341, 342, 2, 343, 32, 29, 360, 361, 362, 427, 428, 429, 31, 430, 62, 181, 194, 195, 196, 147, 148, 14, 149, 39, 407, 408, 409, 410, 411, 688, 689, 690, 691, 692, 693, 694, 695, 696, 697, 698, 699, 647, 648, 649, 650, 651, 652, 677, 678, 679] (by decide +kernel) (by decide +kernel)
set_option maxRecDepth 20000 in
theorem gL_law_X5_points : GoodIn wsL_law (wsV RL 50 RX5 yX5_points wsX5_points) := goodIn_app (goodIn_of _ (by decide +kernel)) ggL_law_X5_points
set_option maxRecDepth 20000 in
theorem ggL_law_X6_points : GoodIn wsL_law wsX6_points := goodIn_r _ [434, 81, 348, 349, 350, 5, 351, 296, 121, 122, 123, 375, 376, 377, 378, 82, 379, 380, 381, 382, 83, 417, 418, 419, 392, 393, 394, 395, 301, 302, 303, 653, 654, 655, 656, 657, 658, 659, 660, 661, 662, 663, 664, 665, 666, 667, 668, 669, 670, 671, 672, 673, 674, 675, 676] (by decide +kernel) (by decide +kernel)
set_option maxRecDepth 20000 in
theorem gL_law_X6_points : GoodIn wsL_law (wsV RL 53 RX6 yX6_points wsX6_points) := goodIn_app (goodIn_of _ (by decide +kernel)) ggL_law_X6_points
set_option maxRecDepth 20000 in
theorem ggL_law_X5_in : GoodIn wsL_law wsX5_in := goodIn_r _ [438, 340, 341, 342, 2, 343, 32, 29, 104, 105, 106, 439, 211, 212, 31, 213, 62, 181, 194, 195, 196, 147, 148, 14, 149, 39, 647, 648, 649, 650, 651, 652, 688, 689, 690, 691, 692, 693, 694, 695, 696, 697, 698, 699, 677, 678, 679] (by decide +kernel) (by decide +kernel)
set_option maxRecDepth 20000 in
theorem gL_law_X5_in : GoodIn wsL_law (wsV RL 54 RX5 yX5_in wsX5_in) := goodIn_app (goodIn_of _ (by decide +kernel)) ggL_law_X5_in
set_option maxRecDepth 20000 in
theorem ggL_law_X6_in : GoodIn wsL_law wsX6_in := goodIn_r _ [443, 348, 349, 350, 5, 351, 296, 121, 122, 123, 444, 445, 446, 447, 81, 375, 376, 377, 378, 82, 379, 380, 381, 382, 83, 314, 315, 316, 301, 302, 303, 653, 654, 655, 656, 657, 658, 659, 660, 661, 662, 663, 664, 665, 666, 667, 668, 669, 670, 671, 672, 673, 674, 675, 676] (by decide +kernel) (by decide +kernel)
set_option maxRecDepth 20000 in
theorem gL_law_X6_in : GoodIn wsL_law (wsV RL 57 RX6 yX6_in wsX6_in) := goodIn_app (goodIn_of _ (by decide +kernel)) ggL_law_X6_in
set_option maxRecDepth 20000 in
theorem ggL_law_X5_sees : GoodIn wsL_law wsX5_sees := goodIn_r _ [451, 339, 452, 340, 341, 342, 2, 343, 32, 29, 356, 357, 358, 14, 359, 39, 688, 689, 690, 691, 692, 693, 694, 695, 696, 697, 698, 699, 647, 648, 649, 650, 651, 652, 677, 678, 679] (by decide +kernel) (by decide +kernel)
set_option maxRecDepth 20000 in
theorem gL_law_X5_sees : GoodIn wsL_law (wsV RL 58 RX5 yX5_sees wsX5_sees) := goodIn_app (goodIn_of _ (by decide +kernel)) ggL_law_X5_sees
set_option maxRecDepth 20000 in
theorem ggL_law_X6_sees : GoodIn wsL_law wsX6_sees := goodIn_r _ [456, 371, 372, 373, 5, 374, 81, 348, 349, 350, 351, 296, 121, 122, 123, 457, 458, 459, 460, 461, 462, 463, 464, 465, 466, 467, 468, 375, 376, 377, 378, 82, 379, 380, 381, 382, 83, 308, 309, 310, 301, 302, 303, 311, 312, 313, 314, 315, 316, 444, 445, 446, 447, 653, 654, 655, 656, 657, 658, 659, 660, 661, 662, 663, 664, 665, 666, 667, 668, 669, 670, 671, 672, 673, 674, 675, 676] (by decide +kernel) (by decide +kernel)
set_option maxRecDepth 20000 in
theorem gL_law_X6_sees : GoodIn wsL_law (wsV RL 61 RX6 yX6_sees wsX6_sees) := goodIn_app (goodIn_of _ (by decide +kernel)) ggL_law_X6_sees
set_option maxRecDepth 20000 in
theorem ggL_law_X5_way : GoodIn wsL_law wsX5_way := goodIn_r _ [472, 339, 27, 473, 340, 341, 342, 2, 343, 32, 29, 356, 357, 358, 14, 359, 39, 474, 475, 476, 26, 477, 478, 479, 57, 480, 481, 482, 483, 484, 688, 689, 690, 691, 692, 693, 694, 695, 696, 697, 698, 699, 647, 648, 649, 650, 651, 652, 687, 677, 678, 679] (by decide +kernel) (by decide +kernel)
set_option maxRecDepth 20000 in
theorem gL_law_X5_way : GoodIn wsL_law (wsV RL 62 RX5 yX5_way wsX5_way) := goodIn_app (goodIn_of _ (by decide +kernel)) ggL_law_X5_way
set_option maxRecDepth 20000 in
theorem ggL_law_X6_way : GoodIn wsL_law wsX6_way := goodIn_r _ [488, 86, 371, 372, 373, 5, 374, 81, 348, 349, 350, 351, 296, 121, 122, 123, 489, 490, 491, 492, 457, 458, 459, 460, 461, 462, 463, 464, 465, 466, 467, 468, 375, 376, 377, 378, 82, 379, 380, 381, 382, 83, 308, 309, 310, 301, 302, 303, 311, 312, 313, 314, 315, 316, 444, 445, 446, 447, 653, 654, 655, 656, 657, 658, 659, 660, 661, 662, 663, 664, 665, 666, 667, 668, 669, 670, 671, 672, 673, 674, 675, 676] (by decide +kernel) (by decide +kernel)
set_option maxRecDepth 20000 in
theorem gL_law_X6_way : GoodIn wsL_law (wsV RL 65 RX6 yX6_way wsX6_way) := goodIn_app (goodIn_of _ (by decide +kernel)) ggL_law_X6_way
set_option maxRecDepth 20000 in
theorem ggL_law_X5_step : GoodIn wsL_law wsX5_step := goodIn_r _ [496, 339, 27, 340, 341, 342, 2, 343, 32, 29, 356, 357, 358, 14, 359, 39, 474, 475, 476, 26, 477, 478, 479, 57, 480, 481, 482, 483, 484, 497, 498, 499, 500, 688, 689, 690, 691, 692, 693, 694, 695, 696, 697, 698, 699, 647, 648, 649, 650, 651, 652, 677, 678, 679, 687] (by decide +kernel) (by decide +kernel)
set_option maxRecDepth 20000 in
theorem gL_law_X5_step : GoodIn wsL_law (wsV RL 66 RX5 yX5_step wsX5_step) := goodIn_app (goodIn_of _ (by decide +kernel)) ggL_law_X5_step
set_option maxRecDepth 20000 in
theorem ggL_law_X6_step : GoodIn wsL_law wsX6_step := goodIn_r _ [504, 86, 371, 372, 373, 5, 374, 81, 348, 349, 350, 351, 296, 121, 122, 123, 489, 490, 491, 492, 457, 458, 459, 460, 461, 462, 463, 464, 465, 466, 467, 468, 375, 376, 377, 378, 82, 379, 380, 381, 382, 83, 308, 309, 310, 301, 302, 303, 311, 312, 313, 314, 315, 316, 444, 445, 446, 447, 653, 654, 655, 656, 657, 658, 659, 660, 661, 662, 663, 664, 665, 666, 667, 668, 669, 670, 671, 672, 673, 674, 675, 676] (by decide +kernel) (by decide +kernel)
set_option maxRecDepth 20000 in
theorem gL_law_X6_step : GoodIn wsL_law (wsV RL 70 RX6 yX6_step wsX6_step) := goodIn_app (goodIn_of _ (by decide +kernel)) ggL_law_X6_step
