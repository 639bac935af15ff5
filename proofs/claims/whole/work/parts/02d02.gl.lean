set_option maxRecDepth 20000 in
theorem ggL_law_X5_share : GoodIn wsL_law wsX5_share := goodIn_r _ [651, 20, 26, 25, 322, 323, 324, 19, 325, 134, 531, 532, 533, 24, 534, 55, 535, 401, 402, 403, 99, 2, 100, 652, 653, 654, 655, 56, 576, 577, 578, 579, 580, 405, 406, 407, 408, 375, 376, 377, 49, 140, 141, 346, 238, 239, 240, 409, 410, 411, 412, 413, 299, 300, 301, 48, 249, 250, 251, 252, 414, 291, 292, 293, 45, 415, 379, 380, 381, 50, 416, 417, 418, 419, 420, 421, 422, 423, 347, 337, 338, 339, 344, 332, 333, 334, 47, 581, 254, 255, 256, 257, 258, 259, 260, 582, 583, 584, 585, 586, 587, 588, 656, 657, 658, 805, 806, 807, 808, 809, 810, 811, 812, 813, 814, 856, 857, 858, 859, 860, 861, 862, 863, 864, 865, 866, 867, 868] (by decide +kernel) (by decide +kernel)
set_option maxRecDepth 20000 in
theorem gL_law_X5_share : GoodIn wsL_law (wsV RL 96 RX5 yX5_share wsX5_share) := goodIn_app (goodIn_of _ (by decide +kernel)) ggL_law_X5_share
set_option maxRecDepth 20000 in
theorem ggL_law_X6_share : GoodIn wsL_law wsX6_share := goodIn_r _ [662, 105, 230, 81, 89, 354, 355, 356, 5, 357, 108, 109, 110, 541, 542, 543, 544, 80, 600, 601, 602, 545, 546, 547, 548, 432, 433, 434, 435, 231, 75, 74, 71, 76, 73, 270, 271, 272, 273, 607, 608, 609, 663, 664, 665, 666, 667, 668, 669, 670, 671, 815, 816, 817, 818, 819, 820, 821, 822, 823, 824, 825, 826, 827, 828, 829, 830, 831, 832, 833, 834, 835, 836, 837, 838, 839, 840, 841, 842, 843, 844, 845, 846, 847, 848, 849, 850, 851, 852] (by decide +kernel) (by decide +kernel)
set_option maxRecDepth 20000 in
theorem gL_law_X6_share : GoodIn wsL_law (wsV RL 100 RX6 yX6_share wsX6_share) := goodIn_app (goodIn_of _ (by decide +kernel)) ggL_law_X6_share
set_option maxRecDepth 20000 in
theorem ggL_law_X5_ask : GoodIn wsL_law wsX5_ask := goodIn_r _ [675, 34, 676, 677, 678, 33, 679, 64, 680, 65, 99, 2, 100, 805, 806, 807, 808, 809, 810, 811, 812, 813, 814, 872, 873, 874] (by decide +kernel) (by decide +kernel)
set_option maxRecDepth 20000 in
theorem gL_law_X5_ask : GoodIn wsL_law (wsV RL 101 RX5 yX5_ask wsX5_ask) := goodIn_app (goodIn_of _ (by decide +kernel)) ggL_law_X5_ask
set_option maxRecDepth 20000 in
theorem ggL_law_X6_ask : GoodIn wsL_law wsX6_ask := goodIn_r _ [684, 105, 685, 686, 265, 86, 87, 108, 109, 5, 110, 815, 816, 817, 818, 819, 820, 821, 822, 823, 824, 825, 826, 827, 828, 829, 830, 831, 832, 833, 834, 835, 836, 837, 838, 839, 840, 841, 842, 843, 844, 845, 846, 847, 848, 849, 850, 851, 852] (by decide +kernel) (by decide +kernel)
set_option maxRecDepth 20000 in
theorem gL_law_X6_ask : GoodIn wsL_law (wsV RL 104 RX6 yX6_ask wsX6_ask) := goodIn_app (goodIn_of _ (by decide +kernel)) ggL_law_X6_ask
set_option maxRecDepth 20000 in
theorem ggL_law_X5_unask : GoodIn wsL_law wsX5_unask := goodIn_r _ [690, 34, 805, 806, 807, 808, 809, 810, 811, 812, 813, 814, 872, 873, 874] (by decide +kernel) (by decide +kernel)
set_option maxRecDepth 20000 in
theorem gL_law_X5_unask : GoodIn wsL_law (wsV RL 105 RX5 yX5_unask wsX5_unask) := goodIn_app (goodIn_of _ (by decide +kernel)) ggL_law_X5_unask
set_option maxRecDepth 20000 in
theorem ggL_law_X6_unask : GoodIn wsL_law wsX6_unask := goodIn_r _ [694, 105, 265, 815, 816, 817, 818, 819, 820, 821, 822, 823, 824, 825, 826, 827, 828, 829, 830, 831, 832, 833, 834, 835, 836, 837, 838, 839, 840, 841, 842, 843, 844, 845, 846, 847, 848, 849, 850, 851, 852] (by decide +kernel) (by decide +kernel)
set_option maxRecDepth 20000 in
theorem gL_law_X6_unask : GoodIn wsL_law (wsV RL 108 RX6 yX6_unask wsX6_unask) := goodIn_app (goodIn_of _ (by decide +kernel)) ggL_law_X6_unask
set_option maxRecDepth 20000 in
theorem ggL_law_X5_tickets : GoodIn wsL_law wsX5_tickets := goodIn_r _ [698, 34, 569, 570, 2, 571, 699, 700, 701, 33, 702, 680, 64, 65, 140, 141, 348, 349, 805, 806, 807, 808, 809, 810, 811, 812, 813, 814, 872, 873, 874] (by decide +kernel) (by decide +kernel)
set_option maxRecDepth 20000 in
theorem gL_law_X5_tickets : GoodIn wsL_law (wsV RL 109 RX5 yX5_tickets wsX5_tickets) := goodIn_app (goodIn_of _ (by decide +kernel)) ggL_law_X5_tickets
set_option maxRecDepth 20000 in
theorem ggL_law_X6_tickets : GoodIn wsL_law wsX6_tickets := goodIn_r _ [706, 105, 707, 708, 265, 86, 87, 108, 109, 5, 110, 362, 363, 364, 815, 816, 817, 818, 819, 820, 821, 822, 823, 824, 825, 826, 827, 828, 829, 830, 831, 832, 833, 834, 835, 836, 837, 838, 839, 840, 841, 842, 843, 844, 845, 846, 847, 848, 849, 850, 851, 852] (by decide +kernel) (by decide +kernel)
set_option maxRecDepth 20000 in
theorem gL_law_X6_tickets : GoodIn wsL_law (wsV RL 112 RX6 yX6_tickets wsX6_tickets) := goodIn_app (goodIn_of _ (by decide +kernel)) ggL_law_X6_tickets
set_option maxRecDepth 20000 in
theorem ggL_law_X5_rests : GoodIn wsL_law wsX5_rests := goodIn_r _ [712, 20, 278, 279, 280, 19, 281, 133, 569, 570, 2, 571, 713, 714, 715, 716, 26, 25, 531, 532, 533, 24, 534, 55, 535, 401, 402, 403, 99, 100, 717, 718, 719, 720, 56, 414, 291, 292, 293, 45, 140, 141, 249, 250, 251, 252, 345, 328, 329, 330, 46, 446, 447, 448, 449, 450, 441, 442, 443, 444, 323, 324, 325, 134, 445, 242, 243, 244, 416, 417, 418, 419, 346, 238, 239, 240, 282, 283, 284, 285, 294, 295, 296, 297, 135, 298, 299, 300, 301, 48, 290, 576, 577, 578, 579, 580, 405, 406, 407, 408, 375, 376, 377, 49, 409, 410, 411, 412, 413, 415, 379, 380, 381, 50, 420, 421, 422, 423, 347, 337, 338, 339, 344, 332, 333, 334, 47, 581, 254, 255, 256, 257, 258, 259, 260, 582, 583, 584, 585, 586, 587, 588, 805, 806, 807, 808, 809, 810, 811, 812, 813, 814, 856, 857, 858, 859, 860, 861, 862, 863, 864, 865, 866, 867, 868] (by decide +kernel) (by decide +kernel)
set_option maxRecDepth 20000 in
theorem gL_law_X5_rests : GoodIn wsL_law (wsV RL 113 RX5 yX5_rests wsX5_rests) := goodIn_app (goodIn_of _ (by decide +kernel)) ggL_law_X5_rests
set_option maxRecDepth 20000 in
theorem ggL_law_X6_rests : GoodIn wsL_law wsX6_rests := goodIn_r _ [724, 105, 81, 88, 725, 726, 306, 307, 308, 5, 309, 229, 108, 109, 110, 541, 542, 543, 544, 80, 727, 728, 729, 730, 230, 71, 72, 455, 456, 457, 458, 459, 460, 461, 462, 545, 546, 547, 548, 432, 433, 434, 435, 231, 75, 74, 76, 73, 270, 271, 272, 273, 314, 315, 316, 317, 607, 608, 609, 815, 816, 817, 818, 819, 820, 821, 822, 823, 824, 825, 826, 827, 828, 829, 830, 831, 832, 833, 834, 835, 836, 837, 838, 839, 840, 841, 842, 843, 844, 845, 846, 847, 848, 849, 850, 851, 852] (by decide +kernel) (by decide +kernel)
set_option maxRecDepth 20000 in
theorem gL_law_X6_rests : GoodIn wsL_law (wsV RL 116 RX6 yX6_rests wsX6_rests) := goodIn_app (goodIn_of _ (by decide +kernel)) ggL_law_X6_rests
set_option maxRecDepth 20000 in
theorem ggL_law_X5_sales : GoodIn wsL_law wsX5_sales := goodIn_r _ [734, 25, 245, 246, 247, 24, 248, 56, 249, 250, 251, 252, 55, 140, 2, 141, 735, 736, 737, 738, 739, 740, 741, 26, 531, 532, 533, 534, 535, 401, 402, 403, 99, 100, 742, 743, 744, 745, 576, 577, 578, 579, 580, 405, 406, 407, 408, 375, 376, 19, 377, 49, 346, 238, 239, 240, 409, 410, 411, 412, 413, 299, 300, 301, 48, 414, 291, 292, 293, 45, 415, 379, 380, 381, 50, 416, 417, 418, 419, 420, 421, 422, 423, 347, 337, 338, 339, 344, 332, 333, 334, 47, 581, 254, 255, 256, 257, 258, 259, 260, 582, 583, 584, 585, 586, 587, 588, 656, 657, 658, 805, 806, 807, 808, 809, 810, 811, 812, 813, 814, 867, 868, 856, 857, 858, 859, 860, 861, 862, 863, 864, 865, 866] (by decide +kernel) (by decide +kernel)
set_option maxRecDepth 20000 in
theorem gL_law_X5_sales : GoodIn wsL_law (wsV RL 117 RX5 yX5_sales wsX5_sales) := goodIn_app (goodIn_of _ (by decide +kernel)) ggL_law_X5_sales
set_option maxRecDepth 20000 in
theorem ggL_law_X6_sales : GoodIn wsL_law wsX6_sales := goodIn_r _ [749, 105, 750, 751, 80, 230, 81, 108, 109, 5, 110, 266, 267, 268, 269, 607, 608, 609, 541, 542, 543, 544, 600, 601, 602, 545, 546, 547, 548, 432, 433, 434, 435, 231, 75, 74, 71, 76, 73, 270, 271, 272, 273, 752, 753, 754, 666, 667, 668, 669, 670, 671, 815, 816, 817, 818, 819, 820, 821, 822, 823, 824, 825, 826, 827, 828, 829, 830, 831, 832, 833, 834, 835, 836, 837, 838, 839, 840, 841, 842, 843, 844, 845, 846, 847, 848, 849, 850, 851, 852] (by decide +kernel) (by decide +kernel)
set_option maxRecDepth 20000 in
theorem gL_law_X6_sales : GoodIn wsL_law (wsV RL 121 RX6 yX6_sales wsX6_sales) := goodIn_app (goodIn_of _ (by decide +kernel)) ggL_law_X6_sales
set_option maxRecDepth 20000 in
theorem ggL_law_X5_seed : GoodIn wsL_law wsX5_seed := goodIn_r _ [758, 759, 805, 806, 807, 808, 809, 810, 811, 812, 813, 814] (by decide +kernel) (by decide +kernel)
set_option maxRecDepth 20000 in
theorem gL_law_X5_seed : GoodIn wsL_law (wsV RL 122 RX5 yX5_seed wsX5_seed) := goodIn_app (goodIn_of _ (by decide +kernel)) ggL_law_X5_seed
set_option maxRecDepth 20000 in
theorem ggL_law_X6_seed : GoodIn wsL_law wsX6_seed := goodIn_r _ [763, 105, 764, 815, 816, 817, 818, 819, 820, 821, 822, 823, 824, 825, 826, 827, 828, 829, 830, 831, 832, 833, 834, 835, 836, 837, 838, 839, 840, 841, 842, 843, 844, 845, 846, 847, 848, 849, 850, 851, 852] (by decide +kernel) (by decide +kernel)
set_option maxRecDepth 20000 in
theorem gL_law_X6_seed : GoodIn wsL_law (wsV RL 126 RX6 yX6_seed wsX6_seed) := goodIn_app (goodIn_of _ (by decide +kernel)) ggL_law_X6_seed
set_option maxRecDepth 20000 in
theorem ggL_law_X5_years : GoodIn wsL_law wsX5_years := goodIn_r _ [768, 26, 25, 759, 769, 770, 771, 531, 532, 533, 24, 534, 55, 535, 401, 402, 403, 99, 2, 100, 772, 773, 774, 775, 628, 447, 448, 449, 56, 450, 441, 442, 443, 444, 323, 324, 19, 325, 134, 249, 250, 251, 252, 140, 141, 445, 242, 243, 244, 345, 328, 329, 330, 46, 414, 291, 292, 293, 45, 416, 417, 418, 419, 346, 238, 239, 240, 629, 474, 475, 476, 477, 468, 469, 470, 471, 283, 284, 285, 472, 341, 342, 343, 344, 332, 333, 334, 47, 347, 337, 338, 339, 348, 349, 627, 495, 496, 497, 498, 279, 280, 281, 133, 580, 405, 406, 407, 408, 375, 376, 377, 49, 409, 410, 411, 412, 413, 299, 300, 301, 48, 415, 379, 380, 381, 50, 420, 421, 422, 423, 776, 777, 778, 779, 805, 806, 807, 808, 809, 810, 811, 812, 813, 814, 867, 868, 856, 857, 858, 859, 860, 861, 862, 863, 864, 865, 866] (by decide +kernel) (by decide +kernel)
set_option maxRecDepth 20000 in
theorem gL_law_X5_years : GoodIn wsL_law (wsV RL 127 RX5 yX5_years wsX5_years) := goodIn_app (goodIn_of _ (by decide +kernel)) ggL_law_X5_years
set_option maxRecDepth 20000 in
theorem ggL_law_X6_years : GoodIn wsL_law wsX6_years := goodIn_r _ [783, 105, 686, 764, 784, 785, 786, 229, 81, 108, 109, 5, 110, 541, 542, 543, 544, 80, 640, 641, 642, 643, 432, 433, 434, 435, 231, 75, 74, 71, 76, 230, 73, 306, 307, 308, 309, 644, 645, 646, 647, 387, 388, 389, 390, 354, 355, 356, 357, 455, 456, 457, 458, 72, 459, 460, 461, 462, 482, 483, 484, 485, 358, 359, 360, 361, 362, 363, 364, 486, 487, 488, 489, 815, 816, 817, 818, 819, 820, 821, 822, 823, 824, 825, 826, 827, 828, 829, 830, 831, 832, 833, 834, 835, 836, 837, 838, 839, 840, 841, 842, 843, 844, 845, 846, 847, 848, 849, 850, 851, 852] (by decide +kernel) (by decide +kernel)
set_option maxRecDepth 20000 in
theorem gL_law_X6_years : GoodIn wsL_law (wsV RL 130 RX6 yX6_years wsX6_years) := goodIn_app (goodIn_of _ (by decide +kernel)) ggL_law_X6_years
set_option maxRecDepth 20000 in
theorem ggL_law_X5_keep : GoodIn wsL_law wsX5_keep := goodIn_r _ [790, 25, 36, 211, 791, 401, 402, 24, 403, 55, 99, 2, 100, 237, 238, 239, 240, 140, 141, 805, 806, 807, 808, 809, 810, 811, 812, 813, 814, 867, 868] (by decide +kernel) (by decide +kernel)
set_option maxRecDepth 20000 in
theorem gL_law_X5_keep : GoodIn wsL_law (wsV RL 131 RX5 yX5_keep wsX5_keep) := goodIn_app (goodIn_of _ (by decide +kernel)) ggL_law_X5_keep
set_option maxRecDepth 20000 in
theorem ggL_law_X6_keep : GoodIn wsL_law wsX6_keep := goodIn_r _ [795, 105, 85, 83, 80, 108, 109, 5, 110, 815, 816, 817, 818, 819, 820, 821, 822, 823, 824, 825, 826, 827, 828, 829, 830, 831, 832, 833, 834, 835, 836, 837, 838, 839, 840, 841, 842, 843, 844, 845, 846, 847, 848, 849, 850, 851, 852] (by decide +kernel) (by decide +kernel)
set_option maxRecDepth 20000 in
theorem gL_law_X6_keep : GoodIn wsL_law (wsV RL 134 RX6 yX6_keep wsX6_keep) := goodIn_app (goodIn_of _ (by decide +kernel)) ggL_law_X6_keep
set_option maxRecDepth 20000 in
theorem ggL_law_X5_again : GoodIn wsL_law wsX5_again := goodIn_r _ [799, 211, 25, 36, 30, 800, 513, 514, 24, 515, 55, 140, 2, 141, 220, 221, 222, 29, 223, 224, 237, 238, 239, 240, 805, 806, 807, 808, 809, 810, 811, 812, 813, 814, 867, 868, 869, 870, 871] (by decide +kernel) (by decide +kernel)
set_option maxRecDepth 20000 in
theorem gL_law_X5_again : GoodIn wsL_law (wsV RL 135 RX5 yX5_again wsX5_again) := goodIn_app (goodIn_of _ (by decide +kernel)) ggL_law_X5_again
set_option maxRecDepth 20000 in
theorem ggL_law_X6_again : GoodIn wsL_law wsX6_again := goodIn_r _ [804, 105, 85, 80, 83, 232, 108, 109, 5, 110, 815, 816, 817, 818, 819, 820, 821, 822, 823, 824, 825, 826, 827, 828, 829, 830, 831, 832, 833, 834, 835, 836, 837, 838, 839, 840, 841, 842, 843, 844, 845, 846, 847, 848, 849, 850, 851, 852] (by decide +kernel) (by decide +kernel)
set_option maxRecDepth 20000 in
theorem gL_law_X6_again : GoodIn wsL_law (wsV RL 138 RX6 yX6_again wsX6_again) := goodIn_app (goodIn_of _ (by decide +kernel)) ggL_law_X6_again
