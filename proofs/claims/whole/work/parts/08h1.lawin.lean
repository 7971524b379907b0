set_option maxRecDepth 20000 in
theorem in_wsL_law_r15 : ∀ w ∈ wsL_law_r15, w ∈ lw_tbl := mem_r _ [400, 401, 402, 148, 403, 405, 16, 406, 660, 661, 662, 663, 664, 666, 22, 667, 407, 408, 409, 410, 411, 412, 413, 414] (by decide +kernel)
set_option maxRecDepth 20000 in
theorem in_wsL_law_r16 : ∀ w ∈ wsL_law_r16, w ∈ lw_tbl := mem_r _ [415, 416, 417, 418, 419, 420, 421, 668, 669, 670, 671, 672, 674, 23, 675, 676, 678, 24, 679, 680, 682, 25, 683, 422] (by decide +kernel)
set_option maxRecDepth 20000 in
theorem in_wsL_law_r17 : ∀ w ∈ wsL_law_r17, w ∈ lw_tbl := mem_r _ [423, 424, 425, 154, 684, 685, 686, 687, 688, 690, 26, 691, 426, 427, 428, 429, 435, 430, 431, 432, 433, 434, 436, 437] (by decide +kernel)
set_option maxRecDepth 20000 in
theorem in_wsL_law_r18 : ∀ w ∈ wsL_law_r18, w ∈ lw_tbl := mem_r _ [438, 439, 440, 441, 692, 693, 694, 695, 696, 697, 698, 699, 442, 443, 444, 445, 451, 452, 453, 446, 447, 448, 449, 700] (by decide +kernel)
set_option maxRecDepth 20000 in
theorem in_wsL_law_r19 : ∀ w ∈ wsL_law_r19, w ∈ lw_tbl := mem_r _ [701, 702, 703, 454, 455, 456, 457, 458, 704, 705, 706, 707, 708, 710, 27, 711, 459, 460, 461, 462, 152, 712, 713, 714] (by decide +kernel)
set_option maxRecDepth 20000 in
theorem in_wsL_law_r20 : ∀ w ∈ wsL_law_r20, w ∈ lw_tbl := mem_r _ [715, 716, 718, 28, 719, 720, 722, 29, 723, 724, 726, 30, 727, 463, 464, 465, 466, 131, 467, 468, 469, 470, 147, 72] (by decide +kernel)
set_option maxRecDepth 20000 in
theorem in_wsL_law_r21 : ∀ w ∈ wsL_law_r21, w ∈ lw_tbl := mem_r _ [471, 473, 17, 474, 150, 728, 729, 730, 731, 732, 734, 31, 735, 475, 476, 477, 478, 479, 480, 481, 482, 736, 737, 738] (by decide +kernel)
set_option maxRecDepth 20000 in
theorem in_wsL_law_r22 : ∀ w ∈ wsL_law_r22, w ∈ lw_tbl := mem_r _ [739, 483, 484, 485, 486, 157, 740, 741, 742, 743, 744, 746, 32, 747, 748, 750, 33, 751, 752, 754, 34, 755, 756, 758] (by decide +kernel)
set_option maxRecDepth 20000 in
theorem in_wsL_law_r23 : ∀ w ∈ wsL_law_r23, w ∈ lw_tbl := mem_r _ [35, 759, 487, 488, 489, 490, 160, 760, 761, 762, 763, 491, 492, 493, 494, 169, 166, 172, 495, 764, 765, 766, 767, 560] (by decide +kernel)
set_option maxRecDepth 20000 in
theorem in_wsL_law_r24 : ∀ w ∈ wsL_law_r24, w ∈ lw_tbl := mem_r _ [768, 770, 36, 771, 496, 497, 498, 499, 181, 175, 178, 500, 772, 773, 774, 775, 565, 776, 778, 37, 779, 780, 782, 38] (by decide +kernel)
set_option maxRecDepth 20000 in
theorem in_wsL_law_r25 : ∀ w ∈ wsL_law_r25, w ∈ lw_tbl := mem_r _ [783, 501, 502, 503, 504, 163, 784, 785, 786, 787, 505, 506, 507, 508, 509, 510, 511, 512, 513, 515, 18, 516, 517, 518] (by decide +kernel)
set_option maxRecDepth 20000 in
theorem in_wsL_law_r26 : ∀ w ∈ wsL_law_r26, w ∈ lw_tbl := mem_r _ [519, 521, 19, 522, 523, 524, 525, 526, 527, 528, 788, 789, 790, 791, 792, 794, 39, 795, 570, 796, 798, 40, 799, 800] (by decide +kernel)
set_option maxRecDepth 20000 in
theorem in_wsL_law_r27 : ∀ w ∈ wsL_law_r27, w ∈ lw_tbl := mem_r _ [802, 41, 803, 529, 530, 531, 532, 804, 805, 806, 807, 533, 534, 535, 536, 537, 538, 539, 540, 808, 809, 810, 811] (by decide +kernel)
