set_option maxRecDepth 20000 in
theorem ggL_law_X5_pledge : GoodIn wsL_law wsX5_pledge := goodIn_r _ [439, 20, 25, 30, 322, 323, 324, 19, 325, 134, 440, 441, 442, 24, 443, 56, 444, 249, 250, 251, 252, 55, 140, 2, 141, 445, 242, 243, 244, 345, 328, 329, 330, 46, 395, 396, 397, 29, 398, 60, 399, 224, 400, 401, 402, 403, 99, 100, 446, 447, 448, 449, 450, 414, 291, 292, 293, 45, 416, 417, 418, 419, 346, 238, 239, 240, 241, 805, 806, 807, 808, 809, 810, 811, 812, 813, 814, 856, 857, 858, 859, 860, 861, 862, 863, 864, 865, 866, 867, 868, 869, 870, 871] (by decide +kernel) (by decide +kernel)
set_option maxRecDepth 20000 in
theorem gL_law_X5_pledge : GoodIn wsL_law (wsV RL 52 RX5 yX5_pledge wsX5_pledge) := goodIn_app (goodIn_of _ (by decide +kernel)) ggL_law_X5_pledge
set_option maxRecDepth 20000 in
theorem ggL_law_X6_pledge : GoodIn wsL_law wsX6_pledge := goodIn_r _ [454, 105, 80, 354, 355, 356, 5, 357, 230, 108, 109, 110, 455, 456, 457, 458, 72, 428, 429, 430, 431, 232, 82, 459, 460, 461, 462, 71, 815, 816, 817, 818, 819, 820, 821, 822, 823, 824, 825, 826, 827, 828, 829, 830, 831, 832, 833, 834, 835, 836, 837, 838, 839, 840, 841, 842, 843, 844, 845, 846, 847, 848, 849, 850, 851, 852] (by decide +kernel) (by decide +kernel)
set_option maxRecDepth 20000 in
theorem gL_law_X6_pledge : GoodIn wsL_law (wsV RL 55 RX6 yX6_pledge wsX6_pledge) := goodIn_app (goodIn_of _ (by decide +kernel)) ggL_law_X6_pledge
set_option maxRecDepth 20000 in
theorem ggL_law_X5_redeem : GoodIn wsL_law wsX5_redeem := goodIn_r _ [466, 20, 25, 30, 322, 323, 324, 19, 325, 134, 467, 468, 469, 24, 470, 56, 444, 249, 250, 251, 252, 55, 140, 2, 141, 414, 291, 292, 293, 45, 471, 283, 284, 285, 472, 341, 342, 343, 344, 332, 333, 334, 47, 345, 328, 329, 330, 46, 346, 238, 239, 240, 347, 337, 338, 339, 348, 349, 395, 396, 397, 29, 398, 60, 399, 224, 400, 401, 402, 403, 99, 100, 473, 474, 475, 476, 477, 416, 417, 418, 419, 445, 242, 243, 244, 326, 282, 805, 806, 807, 808, 809, 810, 811, 812, 813, 814, 856, 857, 858, 859, 860, 861, 862, 863, 864, 865, 866, 867, 868, 869, 870, 871] (by decide +kernel) (by decide +kernel)
set_option maxRecDepth 20000 in
theorem gL_law_X5_redeem : GoodIn wsL_law (wsV RL 56 RX5 yX5_redeem wsX5_redeem) := goodIn_app (goodIn_of _ (by decide +kernel)) ggL_law_X5_redeem
set_option maxRecDepth 20000 in
theorem ggL_law_X6_redeem : GoodIn wsL_law wsX6_redeem := goodIn_r _ [481, 105, 80, 71, 354, 355, 356, 5, 357, 230, 108, 109, 110, 482, 483, 484, 485, 358, 359, 360, 361, 72, 73, 362, 363, 364, 428, 429, 430, 431, 232, 82, 486, 487, 488, 489, 815, 816, 817, 818, 819, 820, 821, 822, 823, 824, 825, 826, 827, 828, 829, 830, 831, 832, 833, 834, 835, 836, 837, 838, 839, 840, 841, 842, 843, 844, 845, 846, 847, 848, 849, 850, 851, 852] (by decide +kernel) (by decide +kernel)
set_option maxRecDepth 20000 in
theorem gL_law_X6_redeem : GoodIn wsL_law (wsV RL 59 RX6 yX6_redeem wsX6_redeem) := goodIn_app (goodIn_of _ (by decide +kernel)) ggL_law_X6_redeem
set_option maxRecDepth 20000 in
theorem ggL_law_X5_give : GoodIn wsL_law wsX5_give := goodIn_r _ [493, 20, 30, 25, 278, 279, 280, 19, 281, 133, 395, 396, 397, 29, 398, 60, 399, 224, 400, 401, 402, 24, 403, 55, 99, 2, 100, 494, 495, 496, 497, 56, 498, 416, 417, 418, 419, 140, 141, 282, 283, 284, 285, 805, 806, 807, 808, 809, 810, 811, 812, 813, 814, 856, 857, 858, 859, 860, 861, 862, 863, 864, 865, 866, 869, 870, 871, 867, 868] (by decide +kernel) (by decide +kernel)
set_option maxRecDepth 20000 in
theorem gL_law_X5_give : GoodIn wsL_law (wsV RL 60 RX5 yX5_give wsX5_give) := goodIn_app (goodIn_of _ (by decide +kernel)) ggL_law_X5_give
set_option maxRecDepth 20000 in
theorem ggL_law_X6_give : GoodIn wsL_law wsX6_give := goodIn_r _ [502, 105, 503, 80, 306, 307, 308, 5, 309, 229, 108, 109, 110, 428, 429, 430, 431, 232, 82, 815, 816, 817, 818, 819, 820, 821, 822, 823, 824, 825, 826, 827, 828, 829, 830, 831, 832, 833, 834, 835, 836, 837, 838, 839, 840, 841, 842, 843, 844, 845, 846, 847, 848, 849, 850, 851, 852] (by decide +kernel) (by decide +kernel)
set_option maxRecDepth 20000 in
theorem gL_law_X6_give : GoodIn wsL_law (wsV RL 63 RX6 yX6_give wsX6_give) := goodIn_app (goodIn_of _ (by decide +kernel)) ggL_law_X6_give
set_option maxRecDepth 20000 in
theorem ggL_law_X5_undo : GoodIn wsL_law wsX5_undo := goodIn_r _ [507, 30, 25, 508, 509, 510, 29, 511, 399, 224, 60, 512, 513, 514, 24, 515, 55, 140, 2, 141, 805, 806, 807, 808, 809, 810, 811, 812, 813, 814, 869, 870, 871, 867, 868] (by decide +kernel) (by decide +kernel)
set_option maxRecDepth 20000 in
theorem gL_law_X5_undo : GoodIn wsL_law (wsV RL 64 RX5 yX5_undo wsX5_undo) := goodIn_app (goodIn_of _ (by decide +kernel)) ggL_law_X5_undo
set_option maxRecDepth 20000 in
theorem ggL_law_X6_undo : GoodIn wsL_law wsX6_undo := goodIn_r _ [519, 105, 232, 80, 82, 815, 816, 817, 818, 819, 820, 821, 822, 823, 824, 825, 826, 827, 828, 829, 830, 831, 832, 833, 834, 835, 836, 837, 838, 839, 840, 841, 842, 843, 844, 845, 846, 847, 848, 849, 850, 851, 852] (by decide +kernel) (by decide +kernel)
set_option maxRecDepth 20000 in
theorem gL_law_X6_undo : GoodIn wsL_law (wsV RL 67 RX6 yX6_undo wsX6_undo) := goodIn_app (goodIn_of _ (by decide +kernel)) ggL_law_X6_undo
set_option maxRecDepth 20000 in
theorem ggL_law_X5_due : GoodIn wsL_law wsX5_due := goodIn_r _ [523, 20, 26, 322, 323, 324, 19, 325, 134, 524, 525, 2, 526, 527, 528, 529, 530, 25, 531, 532, 533, 24, 534, 55, 535, 401, 402, 403, 99, 100, 404, 405, 406, 407, 56, 408, 375, 376, 377, 49, 140, 141, 346, 238, 239, 240, 409, 410, 411, 412, 413, 299, 300, 301, 48, 249, 250, 251, 252, 414, 291, 292, 293, 45, 415, 379, 380, 381, 50, 416, 417, 418, 419, 420, 421, 422, 423, 347, 337, 338, 339, 344, 332, 333, 334, 47, 340, 341, 342, 343, 345, 328, 329, 330, 46, 348, 349, 805, 806, 807, 808, 809, 810, 811, 812, 813, 814, 856, 857, 858, 859, 860, 861, 862, 863, 864, 865, 866, 867, 868] (by decide +kernel) (by decide +kernel)
set_option maxRecDepth 20000 in
theorem gL_law_X5_due : GoodIn wsL_law (wsV RL 68 RX5 yX5_due wsX5_due) := goodIn_app (goodIn_of _ (by decide +kernel)) ggL_law_X5_due
set_option maxRecDepth 20000 in
theorem ggL_law_X6_due : GoodIn wsL_law wsX6_due := goodIn_r _ [539, 105, 540, 81, 354, 355, 356, 5, 357, 230, 108, 109, 110, 541, 542, 543, 544, 80, 545, 546, 547, 548, 432, 433, 434, 435, 231, 75, 74, 71, 76, 73, 358, 359, 360, 361, 72, 362, 363, 364, 815, 816, 817, 818, 819, 820, 821, 822, 823, 824, 825, 826, 827, 828, 829, 830, 831, 832, 833, 834, 835, 836, 837, 838, 839, 840, 841, 842, 843, 844, 845, 846, 847, 848, 849, 850, 851, 852] (by decide +kernel) (by decide +kernel)
set_option maxRecDepth 20000 in
theorem gL_law_X6_due : GoodIn wsL_law (wsV RL 71 RX6 yX6_due wsX6_due) := goodIn_app (goodIn_of _ (by decide +kernel)) ggL_law_X6_due
set_option maxRecDepth 20000 in
theorem ggL_law_X5_done : GoodIn wsL_law wsX5_done := goodIn_r _ [552, 26, 524, 525, 2, 526, 527, 528, 529, 530, 25, 531, 532, 533, 24, 534, 55, 535, 401, 402, 403, 99, 100, 404, 405, 406, 407, 56, 408, 375, 376, 19, 377, 49, 140, 141, 346, 238, 239, 240, 409, 410, 411, 412, 413, 299, 300, 301, 48, 249, 250, 251, 252, 414, 291, 292, 293, 45, 415, 379, 380, 381, 50, 416, 417, 418, 419, 420, 421, 422, 423, 347, 337, 338, 339, 344, 332, 333, 334, 47, 253, 254, 255, 256, 257, 258, 259, 260, 805, 806, 807, 808, 809, 810, 811, 812, 813, 814, 867, 868, 856, 857, 858, 859, 860, 861, 862, 863, 864, 865, 866] (by decide +kernel) (by decide +kernel)
set_option maxRecDepth 20000 in
theorem gL_law_X5_done : GoodIn wsL_law (wsV RL 72 RX5 yX5_done wsX5_done) := goodIn_app (goodIn_of _ (by decide +kernel)) ggL_law_X5_done
set_option maxRecDepth 20000 in
theorem ggL_law_X6_done : GoodIn wsL_law wsX6_done := goodIn_r _ [556, 105, 540, 81, 108, 109, 5, 110, 541, 542, 543, 544, 80, 545, 546, 547, 548, 432, 433, 434, 435, 231, 75, 74, 71, 76, 230, 73, 270, 271, 272, 273, 815, 816, 817, 818, 819, 820, 821, 822, 823, 824, 825, 826, 827, 828, 829, 830, 831, 832, 833, 834, 835, 836, 837, 838, 839, 840, 841, 842, 843, 844, 845, 846, 847, 848, 849, 850, 851, 852] (by decide +kernel) (by decide +kernel)
set_option maxRecDepth 20000 in
theorem gL_law_X6_done : GoodIn wsL_law (wsV RL 75 RX6 yX6_done wsX6_done) := goodIn_app (goodIn_of _ (by decide +kernel)) ggL_law_X6_done
set_option maxRecDepth 20000 in
theorem ggL_law_X5_coins : GoodIn wsL_law wsX5_coins := goodIn_r _ [560, 20, 26, 278, 279, 280, 19, 281, 133, 524, 525, 2, 526, 527, 528, 529, 530, 25, 531, 532, 533, 24, 534, 55, 535, 401, 402, 403, 99, 100, 404, 405, 406, 407, 56, 408, 375, 376, 377, 49, 140, 141, 346, 238, 239, 240, 409, 410, 411, 412, 413, 299, 300, 301, 48, 249, 250, 251, 252, 414, 291, 292, 293, 45, 415, 379, 380, 381, 50, 416, 417, 418, 419, 420, 421, 422, 423, 347, 337, 338, 339, 344, 332, 333, 334, 47, 282, 283, 284, 285, 805, 806, 807, 808, 809, 810, 811, 812, 813, 814, 856, 857, 858, 859, 860, 861, 862, 863, 864, 865, 866, 867, 868] (by decide +kernel) (by decide +kernel)
set_option maxRecDepth 20000 in
theorem gL_law_X5_coins : GoodIn wsL_law (wsV RL 76 RX5 yX5_coins wsX5_coins) := goodIn_app (goodIn_of _ (by decide +kernel)) ggL_law_X5_coins
set_option maxRecDepth 20000 in
theorem ggL_law_X6_coins : GoodIn wsL_law wsX6_coins := goodIn_r _ [564, 105, 540, 81, 306, 307, 308, 5, 309, 229, 108, 109, 110, 541, 542, 543, 544, 80, 545, 546, 547, 548, 432, 433, 434, 435, 231, 75, 74, 71, 76, 230, 73, 815, 816, 817, 818, 819, 820, 821, 822, 823, 824, 825, 826, 827, 828, 829, 830, 831, 832, 833, 834, 835, 836, 837, 838, 839, 840, 841, 842, 843, 844, 845, 846, 847, 848, 849, 850, 851, 852] (by decide +kernel) (by decide +kernel)
set_option maxRecDepth 20000 in
theorem gL_law_X6_coins : GoodIn wsL_law (wsV RL 79 RX6 yX6_coins wsX6_coins) := goodIn_app (goodIn_of _ (by decide +kernel)) ggL_law_X6_coins
set_option maxRecDepth 20000 in
theorem ggL_law_X5_raise : GoodIn wsL_law wsX5_raise := goodIn_r _ [568, 20, 278, 279, 280, 19, 281, 133, 569, 570, 2, 571, 572, 573, 574, 575, 26, 25, 286, 287, 288, 289, 134, 290, 291, 292, 293, 45, 140, 141, 531, 532, 533, 24, 534, 55, 535, 401, 402, 403, 99, 100, 446, 447, 448, 449, 56, 450, 441, 442, 443, 444, 323, 324, 325, 249, 250, 251, 252, 445, 242, 243, 244, 345, 328, 329, 330, 46, 414, 416, 417, 418, 419, 346, 238, 239, 240, 282, 283, 284, 285, 576, 577, 578, 579, 580, 405, 406, 407, 408, 375, 376, 377, 49, 409, 410, 411, 412, 413, 299, 300, 301, 48, 415, 379, 380, 381, 50, 420, 421, 422, 423, 347, 337, 338, 339, 344, 332, 333, 334, 47, 581, 254, 255, 256, 257, 258, 259, 260, 294, 295, 296, 297, 135, 298, 582, 583, 584, 585, 586, 587, 588, 805, 806, 807, 808, 809, 810, 811, 812, 813, 814, 856, 857, 858, 859, 860, 861, 862, 863, 864, 865, 866, 867, 868] (by decide +kernel) (by decide +kernel)
set_option maxRecDepth 20000 in
theorem gL_law_X5_raise : GoodIn wsL_law (wsV RL 80 RX5 yX5_raise wsX5_raise) := goodIn_app (goodIn_of _ (by decide +kernel)) ggL_law_X5_raise
set_option maxRecDepth 20000 in
theorem ggL_law_X6_raise : GoodIn wsL_law wsX6_raise := goodIn_r _ [592, 105, 593, 80, 594, 595, 230, 306, 307, 308, 5, 309, 229, 108, 109, 110, 266, 267, 268, 269, 310, 311, 312, 313, 71, 596, 597, 598, 599, 72, 600, 601, 602, 603, 604, 605, 606, 81, 541, 542, 543, 544, 459, 460, 461, 462, 545, 546, 547, 548, 432, 433, 434, 435, 231, 75, 74, 76, 73, 270, 271, 272, 273, 314, 315, 316, 317, 607, 608, 609, 815, 816, 817, 818, 819, 820, 821, 822, 823, 824, 825, 826, 827, 828, 829, 830, 831, 832, 833, 834, 835, 836, 837, 838, 839, 840, 841, 842, 843, 844, 845, 846, 847, 848, 849, 850, 851, 852] (by decide +kernel) (by decide +kernel)
set_option maxRecDepth 20000 in
theorem gL_law_X6_raise : GoodIn wsL_law (wsV RL 84 RX6 yX6_raise wsX6_raise) := goodIn_app (goodIn_of _ (by decide +kernel)) ggL_law_X6_raise
set_option maxRecDepth 20000 in
theorem ggL_law_X5_back : GoodIn wsL_law wsX5_back := goodIn_r _ [613, 20, 25, 26, 322, 323, 324, 19, 325, 134, 335, 250, 251, 24, 252, 55, 140, 2, 141, 531, 532, 533, 534, 535, 401, 402, 403, 99, 100, 467, 468, 469, 470, 56, 444, 249, 414, 291, 292, 293, 45, 471, 283, 284, 285, 472, 341, 342, 343, 344, 332, 333, 334, 47, 345, 328, 329, 330, 46, 346, 238, 239, 240, 347, 337, 338, 339, 348, 349, 404, 405, 406, 407, 408, 375, 376, 377, 49, 409, 410, 411, 412, 413, 299, 300, 301, 48, 415, 379, 380, 381, 50, 416, 417, 418, 419, 420, 421, 422, 423, 805, 806, 807, 808, 809, 810, 811, 812, 813, 814, 856, 857, 858, 859, 860, 861, 862, 863, 864, 865, 866, 867, 868] (by decide +kernel) (by decide +kernel)
set_option maxRecDepth 20000 in
theorem gL_law_X5_back : GoodIn wsL_law (wsV RL 85 RX5 yX5_back wsX5_back) := goodIn_app (goodIn_of _ (by decide +kernel)) ggL_law_X5_back
set_option maxRecDepth 20000 in
theorem ggL_law_X6_back : GoodIn wsL_law wsX6_back := goodIn_r _ [617, 105, 80, 81, 354, 355, 356, 5, 357, 230, 108, 109, 110, 541, 542, 543, 544, 482, 483, 484, 485, 71, 358, 359, 360, 361, 72, 73, 362, 363, 364, 432, 433, 434, 435, 231, 75, 74, 76, 815, 816, 817, 818, 819, 820, 821, 822, 823, 824, 825, 826, 827, 828, 829, 830, 831, 832, 833, 834, 835, 836, 837, 838, 839, 840, 841, 842, 843, 844, 845, 846, 847, 848, 849, 850, 851, 852] (by decide +kernel) (by decide +kernel)
set_option maxRecDepth 20000 in
theorem gL_law_X6_back : GoodIn wsL_law (wsV RL 88 RX6 yX6_back wsX6_back) := goodIn_app (goodIn_of _ (by decide +kernel)) ggL_law_X6_back
set_option maxRecDepth 20000 in
theorem ggL_law_X5_judge : GoodIn wsL_law wsX5_judge := goodIn_r _ [621, 622, 26, 25, 531, 532, 533, 24, 534, 55, 535, 401, 402, 403, 99, 2, 100, 623, 624, 625, 626, 56, 627, 495, 496, 497, 498, 279, 280, 19, 281, 133, 416, 417, 418, 419, 140, 141, 471, 283, 284, 285, 580, 405, 406, 407, 408, 375, 376, 377, 49, 346, 238, 239, 240, 409, 410, 411, 412, 413, 299, 300, 301, 48, 249, 250, 251, 252, 414, 291, 292, 293, 45, 415, 379, 380, 381, 50, 420, 421, 422, 423, 347, 337, 338, 339, 344, 332, 333, 334, 47, 628, 447, 448, 449, 450, 441, 442, 443, 444, 323, 324, 325, 134, 445, 242, 243, 244, 345, 328, 329, 330, 46, 629, 474, 475, 476, 477, 468, 469, 470, 472, 341, 342, 343, 348, 349, 630, 370, 371, 372, 135, 257, 258, 259, 260, 805, 806, 807, 808, 809, 810, 811, 812, 813, 814, 867, 868, 856, 857, 858, 859, 860, 861, 862, 863, 864, 865, 866] (by decide +kernel) (by decide +kernel)
set_option maxRecDepth 20000 in
theorem gL_law_X5_judge : GoodIn wsL_law (wsV RL 91 RX5 yX5_judge wsX5_judge) := goodIn_app (goodIn_of _ (by decide +kernel)) ggL_law_X5_judge
set_option maxRecDepth 20000 in
theorem ggL_law_X6_judge : GoodIn wsL_law wsX6_judge := goodIn_r _ [634, 105, 635, 636, 108, 109, 5, 110, 637, 638, 639, 541, 542, 543, 544, 81, 80, 640, 641, 642, 643, 432, 433, 434, 435, 231, 75, 74, 71, 76, 230, 73, 306, 307, 308, 309, 229, 644, 645, 646, 647, 387, 388, 389, 390, 354, 355, 356, 357, 455, 456, 457, 458, 72, 459, 460, 461, 462, 482, 483, 484, 485, 358, 359, 360, 361, 362, 363, 364, 486, 487, 488, 489, 815, 816, 817, 818, 819, 820, 821, 822, 823, 824, 825, 826, 827, 828, 829, 830, 831, 832, 833, 834, 835, 836, 837, 838, 839, 840, 841, 842, 843, 844, 845, 846, 847, 848, 849, 850, 851, 852] (by decide +kernel) (by decide +kernel)
set_option maxRecDepth 20000 in
theorem gL_law_X6_judge : GoodIn wsL_law (wsV RL 95 RX6 yX6_judge wsX6_judge) := goodIn_app (goodIn_of _ (by decide +kernel)) ggL_law_X6_judge
