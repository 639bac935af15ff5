set_option maxRecDepth 20000 in
theorem ggL_law_X5_init : GoodIn wsL_law wsX5_init := goodIn_r _ [9, 10, 11, 12, 13, 14, 15, 16, 17, 18, 19, 20, 21, 22, 23, 24, 25, 26, 27, 28, 29, 30, 31, 32, 33, 34, 35, 36, 37, 38, 39, 40, 41, 42, 43, 44, 45, 46, 47, 48, 49, 50, 51, 52, 53, 54, 55, 56, 57, 58, 59, 60, 61, 62, 63, 64, 65, 853, 854, 855, 805, 806, 807, 808, 809, 810, 811, 812, 813, 814, 856, 857, 858, 859, 860, 861, 862, 863, 864, 865, 866, 867, 868, 869, 870, 871, 872, 873, 874] (by decide +kernel) (by decide +kernel)
set_option maxRecDepth 20000 in
theorem gL_law_X5_init : GoodIn wsL_law (wsX5_init) := ggL_law_X5_init
set_option maxRecDepth 20000 in
theorem ggL_law_X6_init : GoodIn wsL_law wsX6_init := goodIn_r _ [68, 69, 11, 12, 35, 70, 71, 72, 73, 74, 75, 76, 77, 78, 79, 80, 81, 82, 83, 84, 85, 86, 87, 88, 89, 815, 816, 817, 818, 819, 820, 821, 822, 823, 824, 825, 826, 827, 828, 829, 830, 831, 832, 833, 834, 835, 836, 837, 838, 839, 840, 841, 842, 843, 844, 845, 846, 847, 848, 849, 850, 851, 852] (by decide +kernel) (by decide +kernel)
set_option maxRecDepth 20000 in
theorem gL_law_X6_init : GoodIn wsL_law (wsX6_init) := ggL_law_X6_init
set_option maxRecDepth 20000 in
theorem ggL_law_X5_write : GoodIn wsL_law wsX5_write := goodIn_r _ [93, 16, 94, 95, 96, 15, 97, 40, 98, 99, 2, 100, 805, 806, 807, 808, 809, 810, 811, 812, 813, 814, 853, 854, 855] (by decide +kernel) (by decide +kernel)
set_option maxRecDepth 20000 in
theorem gL_law_X5_write : GoodIn wsL_law (wsV RL 13 RX5 yX5_write wsX5_write) := goodIn_app (goodIn_of _ (by decide +kernel)) ggL_law_X5_write
set_option maxRecDepth 20000 in
theorem ggL_law_X6_write : GoodIn wsL_law wsX6_write := goodIn_r _ [104, 105, 106, 107, 70, 108, 109, 5, 110, 815, 816, 817, 818, 819, 820, 821, 822, 823, 824, 825, 826, 827, 828, 829, 830, 831, 832, 833, 834, 835, 836, 837, 838, 839, 840, 841, 842, 843, 844, 845, 846, 847, 848, 849, 850, 851, 852] (by decide +kernel) (by decide +kernel)
set_option maxRecDepth 20000 in
theorem gL_law_X6_write : GoodIn wsL_law (wsV RL 17 RX6 yX6_write wsX6_write) := goodIn_app (goodIn_of _ (by decide +kernel)) ggL_law_X6_write
set_option maxRecDepth 20000 in
theorem ggL_law_X5_wipe : GoodIn wsL_law wsX5_wipe := goodIn_r _ [114, 16, 805, 806, 807, 808, 809, 810, 811, 812, 813, 814, 853, 854, 855] (by decide +kernel) (by decide +kernel)
set_option maxRecDepth 20000 in
theorem gL_law_X5_wipe : GoodIn wsL_law (wsV RL 18 RX5 yX5_wipe wsX5_wipe) := goodIn_app (goodIn_of _ (by decide +kernel)) ggL_law_X5_wipe
set_option maxRecDepth 20000 in
theorem ggL_law_X6_wipe : GoodIn wsL_law wsX6_wipe := goodIn_r _ [118, 105, 107, 815, 816, 817, 818, 819, 820, 821, 822, 823, 824, 825, 826, 827, 828, 829, 830, 831, 832, 833, 834, 835, 836, 837, 838, 839, 840, 841, 842, 843, 844, 845, 846, 847, 848, 849, 850, 851, 852] (by decide +kernel) (by decide +kernel)
set_option maxRecDepth 20000 in
theorem gL_law_X6_wipe : GoodIn wsL_law (wsV RL 22 RX6 yX6_wipe wsX6_wipe) := goodIn_app (goodIn_of _ (by decide +kernel)) ggL_law_X6_wipe
set_option maxRecDepth 20000 in
theorem ggL_law_X5_fault : GoodIn wsL_law wsX5_fault := goodIn_r _ [122, 16, 21, 123, 124, 125, 15, 126, 127, 98, 128, 129, 130, 19, 131, 132, 133, 134, 135, 136, 137, 138, 139, 40, 140, 2, 141, 142, 143, 144, 145, 146, 147, 148, 149, 150, 151, 152, 153, 154, 155, 156, 157, 44, 99, 100, 158, 159, 160, 161, 162, 163, 164, 165, 45, 46, 47, 166, 167, 168, 169, 170, 171, 172, 173, 48, 49, 50, 805, 806, 807, 808, 809, 810, 811, 812, 813, 814, 853, 854, 855, 856, 857, 858, 859, 860, 861, 862, 863, 864, 865, 866] (by decide +kernel) (by decide +kernel)
set_option maxRecDepth 20000 in
theorem gL_law_X5_fault : GoodIn wsL_law (wsV RL 23 RX5 yX5_fault wsX5_fault) := goodIn_app (goodIn_of _ (by decide +kernel)) ggL_law_X5_fault
set_option maxRecDepth 20000 in
theorem ggL_law_X6_fault : GoodIn wsL_law wsX6_fault := goodIn_r _ [177, 105, 178, 179, 180, 5, 181, 182, 183, 184, 185, 107, 70, 186, 187, 188, 189, 190, 108, 109, 110, 191, 192, 193, 194, 195, 196, 197, 198, 77, 199, 200, 201, 202, 78, 203, 204, 205, 206, 79, 815, 816, 817, 818, 819, 820, 821, 822, 823, 824, 825, 826, 827, 828, 829, 830, 831, 832, 833, 834, 835, 836, 837, 838, 839, 840, 841, 842, 843, 844, 845, 846, 847, 848, 849, 850, 851, 852] (by decide +kernel) (by decide +kernel)
set_option maxRecDepth 20000 in
theorem gL_law_X6_fault : GoodIn wsL_law (wsV RL 26 RX6 yX6_fault wsX6_fault) := goodIn_app (goodIn_of _ (by decide +kernel)) ggL_law_X6_fault
set_option maxRecDepth 20000 in
theorem ggL_law_X5_shop : GoodIn wsL_law wsX5_shop := goodIn_r _ [210, 16, 21, 20, 25, 30, 211, 123, 124, 125, 15, 126, 127, 98, 128, 129, 130, 19, 131, 132, 133, 134, 135, 136, 137, 138, 139, 40, 140, 2, 141, 142, 143, 144, 145, 146, 147, 148, 149, 150, 151, 152, 153, 154, 155, 156, 157, 44, 99, 100, 158, 159, 160, 161, 162, 163, 164, 165, 45, 46, 47, 166, 167, 168, 169, 170, 171, 172, 173, 48, 49, 50, 212, 213, 214, 24, 215, 55, 56, 216, 217, 218, 219, 220, 221, 222, 29, 223, 224, 805, 806, 807, 808, 809, 810, 811, 812, 813, 814, 856, 857, 858, 859, 860, 861, 862, 863, 864, 865, 866, 853, 854, 855, 867, 868, 869, 870, 871] (by decide +kernel) (by decide +kernel)
set_option maxRecDepth 20000 in
theorem gL_law_X5_shop : GoodIn wsL_law (wsV RL 27 RX5 yX5_shop wsX5_shop) := goodIn_app (goodIn_of _ (by decide +kernel)) ggL_law_X5_shop
set_option maxRecDepth 20000 in
theorem ggL_law_X6_shop : GoodIn wsL_law wsX6_shop := goodIn_r _ [228, 105, 183, 229, 184, 230, 185, 231, 80, 186, 77, 71, 78, 72, 73, 74, 79, 75, 76, 232, 85, 178, 179, 180, 5, 181, 182, 107, 70, 187, 188, 189, 190, 108, 109, 110, 191, 192, 193, 194, 195, 196, 197, 198, 199, 200, 201, 202, 203, 204, 205, 206, 815, 816, 817, 818, 819, 820, 821, 822, 823, 824, 825, 826, 827, 828, 829, 830, 831, 832, 833, 834, 835, 836, 837, 838, 839, 840, 841, 842, 843, 844, 845, 846, 847, 848, 849, 850, 851, 852] (by decide +kernel) (by decide +kernel)
set_option maxRecDepth 20000 in
theorem gL_law_X6_shop : GoodIn wsL_law (wsV RL 30 RX6 yX6_shop wsX6_shop) := goodIn_app (goodIn_of _ (by decide +kernel)) ggL_law_X6_shop
set_option maxRecDepth 20000 in
theorem ggL_law_X5_about : GoodIn wsL_law wsX5_about := goodIn_r _ [236, 20, 25, 30, 34, 16, 237, 238, 239, 24, 240, 55, 140, 2, 141, 241, 242, 243, 244, 245, 246, 247, 248, 56, 249, 250, 251, 252, 253, 254, 255, 256, 257, 258, 259, 260, 805, 806, 807, 808, 809, 810, 811, 812, 813, 814, 856, 857, 858, 859, 860, 861, 862, 863, 864, 865, 866, 869, 870, 871, 872, 873, 874, 853, 854, 855, 867, 868] (by decide +kernel) (by decide +kernel)
set_option maxRecDepth 20000 in
theorem gL_law_X5_about : GoodIn wsL_law (wsV RL 31 RX5 yX5_about wsX5_about) := goodIn_app (goodIn_of _ (by decide +kernel)) ggL_law_X5_about
set_option maxRecDepth 20000 in
theorem ggL_law_X6_about : GoodIn wsL_law wsX6_about := goodIn_r _ [264, 105, 229, 230, 231, 80, 232, 265, 107, 266, 267, 268, 5, 269, 270, 271, 272, 273, 815, 816, 817, 818, 819, 820, 821, 822, 823, 824, 825, 826, 827, 828, 829, 830, 831, 832, 833, 834, 835, 836, 837, 838, 839, 840, 841, 842, 843, 844, 845, 846, 847, 848, 849, 850, 851, 852] (by decide +kernel) (by decide +kernel)
set_option maxRecDepth 20000 in
theorem gL_law_X6_about : GoodIn wsL_law (wsV RL 34 RX6 yX6_about wsX6_about) := goodIn_app (goodIn_of _ (by decide +kernel)) ggL_law_X6_about
set_option maxRecDepth 20000 in
theorem ggL_law_X5_person : GoodIn wsL_law wsX5_person := goodIn_r _ [277, 20, 25, 278, 279, 280, 19, 281, 133, 282, 283, 284, 24, 285, 55, 140, 2, 141, 286, 287, 288, 289, 134, 290, 291, 292, 293, 45, 294, 295, 296, 297, 135, 298, 299, 300, 301, 48, 805, 806, 807, 808, 809, 810, 811, 812, 813, 814, 856, 857, 858, 859, 860, 861, 862, 863, 864, 865, 866, 867, 868] (by decide +kernel) (by decide +kernel)
set_option maxRecDepth 20000 in
theorem gL_law_X5_person : GoodIn wsL_law (wsV RL 35 RX5 yX5_person wsX5_person) := goodIn_app (goodIn_of _ (by decide +kernel)) ggL_law_X5_person
set_option maxRecDepth 20000 in
theorem ggL_law_X6_person : GoodIn wsL_law wsX6_person := goodIn_r _ [305, 105, 80, 306, 307, 308, 5, 309, 229, 108, 109, 110, 310, 311, 312, 313, 230, 71, 314, 315, 316, 317, 231, 74, 815, 816, 817, 818, 819, 820, 821, 822, 823, 824, 825, 826, 827, 828, 829, 830, 831, 832, 833, 834, 835, 836, 837, 838, 839, 840, 841, 842, 843, 844, 845, 846, 847, 848, 849, 850, 851, 852] (by decide +kernel) (by decide +kernel)
set_option maxRecDepth 20000 in
theorem gL_law_X6_person : GoodIn wsL_law (wsV RL 39 RX6 yX6_person wsX6_person) := goodIn_app (goodIn_of _ (by decide +kernel)) ggL_law_X6_person
set_option maxRecDepth 20000 in
theorem ggL_law_X5_quality : GoodIn wsL_law wsX5_quality := goodIn_r _ [321, 20, 25, 322, 323, 324, 19, 325, 134, 326, 291, 292, 293, 45, 140, 2, 141, 327, 328, 329, 330, 46, 331, 332, 333, 334, 47, 335, 250, 251, 24, 252, 55, 336, 337, 338, 339, 340, 341, 342, 343, 56, 249, 344, 345, 346, 238, 239, 240, 347, 348, 349, 805, 806, 807, 808, 809, 810, 811, 812, 813, 814, 856, 857, 858, 859, 860, 861, 862, 863, 864, 865, 866, 867, 868] (by decide +kernel) (by decide +kernel)
set_option maxRecDepth 20000 in
theorem gL_law_X5_quality : GoodIn wsL_law (wsV RL 40 RX5 yX5_quality wsX5_quality) := goodIn_app (goodIn_of _ (by decide +kernel)) ggL_law_X5_quality
set_option maxRecDepth 20000 in
theorem ggL_law_X6_quality : GoodIn wsL_law wsX6_quality := goodIn_r _ [353, 105, 71, 72, 73, 80, 354, 355, 356, 5, 357, 230, 108, 109, 110, 358, 359, 360, 361, 362, 363, 364, 815, 816, 817, 818, 819, 820, 821, 822, 823, 824, 825, 826, 827, 828, 829, 830, 831, 832, 833, 834, 835, 836, 837, 838, 839, 840, 841, 842, 843, 844, 845, 846, 847, 848, 849, 850, 851, 852] (by decide +kernel) (by decide +kernel)
set_option maxRecDepth 20000 in
theorem gL_law_X6_quality : GoodIn wsL_law (wsV RL 43 RX6 yX6_quality wsX6_quality) := goodIn_app (goodIn_of _ (by decide +kernel)) ggL_law_X6_quality
set_option maxRecDepth 20000 in
theorem ggL_law_X5_deed : GoodIn wsL_law wsX5_deed := goodIn_r _ [368, 20, 25, 369, 370, 371, 19, 372, 135, 373, 299, 300, 301, 48, 140, 2, 141, 374, 375, 376, 377, 49, 378, 379, 380, 381, 50, 382, 258, 259, 24, 260, 55, 805, 806, 807, 808, 809, 810, 811, 812, 813, 814, 856, 857, 858, 859, 860, 861, 862, 863, 864, 865, 866, 867, 868] (by decide +kernel) (by decide +kernel)
set_option maxRecDepth 20000 in
theorem gL_law_X5_deed : GoodIn wsL_law (wsV RL 44 RX5 yX5_deed wsX5_deed) := goodIn_app (goodIn_of _ (by decide +kernel)) ggL_law_X5_deed
set_option maxRecDepth 20000 in
theorem ggL_law_X6_deed : GoodIn wsL_law wsX6_deed := goodIn_r _ [386, 105, 74, 75, 76, 80, 387, 388, 389, 5, 390, 231, 108, 109, 110, 815, 816, 817, 818, 819, 820, 821, 822, 823, 824, 825, 826, 827, 828, 829, 830, 831, 832, 833, 834, 835, 836, 837, 838, 839, 840, 841, 842, 843, 844, 845, 846, 847, 848, 849, 850, 851, 852] (by decide +kernel) (by decide +kernel)
set_option maxRecDepth 20000 in
theorem gL_law_X6_deed : GoodIn wsL_law (wsV RL 47 RX6 yX6_deed wsX6_deed) := goodIn_app (goodIn_of _ (by decide +kernel)) ggL_law_X6_deed
set_option maxRecDepth 20000 in
theorem ggL_law_X5_day : GoodIn wsL_law wsX5_day := goodIn_r _ [394, 30, 25, 395, 396, 397, 29, 398, 60, 399, 224, 400, 401, 402, 24, 403, 55, 99, 2, 100, 404, 405, 406, 407, 56, 408, 375, 376, 19, 377, 49, 140, 141, 346, 238, 239, 240, 409, 410, 411, 412, 413, 299, 300, 301, 48, 249, 250, 251, 252, 414, 291, 292, 293, 45, 415, 379, 380, 381, 50, 416, 417, 418, 419, 420, 421, 422, 423, 347, 337, 338, 339, 344, 332, 333, 334, 47, 805, 806, 807, 808, 809, 810, 811, 812, 813, 814, 869, 870, 871, 867, 868, 856, 857, 858, 859, 860, 861, 862, 863, 864, 865, 866] (by decide +kernel) (by decide +kernel)
set_option maxRecDepth 20000 in
theorem gL_law_X5_day : GoodIn wsL_law (wsV RL 48 RX5 yX5_day wsX5_day) := goodIn_app (goodIn_of _ (by decide +kernel)) ggL_law_X5_day
set_option maxRecDepth 20000 in
theorem ggL_law_X6_day : GoodIn wsL_law wsX6_day := goodIn_r _ [427, 105, 80, 428, 429, 430, 5, 431, 232, 82, 432, 433, 434, 435, 231, 75, 74, 71, 76, 230, 73, 815, 816, 817, 818, 819, 820, 821, 822, 823, 824, 825, 826, 827, 828, 829, 830, 831, 832, 833, 834, 835, 836, 837, 838, 839, 840, 841, 842, 843, 844, 845, 846, 847, 848, 849, 850, 851, 852] (by decide +kernel) (by decide +kernel)
set_option maxRecDepth 20000 in
theorem gL_law_X6_day : GoodIn wsL_law (wsV RL 51 RX6 yX6_day wsX6_day) := goodIn_app (goodIn_of _ (by decide +kernel)) ggL_law_X6_day
