theorem lw_in_of {ws : List Cond} (ps : List Nat) (h : ws = ps.filterMap (fun i => lw_tbl[i]?)) : ∀ w ∈ ws, w ∈ lw_tbl := fun w hw => by
  rw [h] at hw
  obtain ⟨i, -, hi⟩ := List.mem_filterMap.mp hw
  exact List.mem_of_getElem? hi
set_option maxRecDepth 20000 in
theorem li_wsL_law_r1 : ∀ w ∈ wsL_law_r1, w ∈ lw_tbl := lw_in_of [49, 50, 41, 634, 635, 47, 1020, 51, 52, 53, 54, 55, 56, 57, 58, 42, 173, 75, 76, 43, 174, 175, 126, 127] (by decide +kernel)
set_option maxRecDepth 20000 in
theorem li_wsL_law_r2 : ∀ w ∈ wsL_law_r2, w ∈ lw_tbl := lw_in_of [44, 176, 177, 139, 140, 45, 178, 156, 157, 46, 179, 74, 180, 60, 61, 62, 63, 78, 79, 80, 81, 82, 83, 84] (by decide +kernel)
set_option maxRecDepth 20000 in
theorem li_wsL_law_r3 : ∀ w ∈ wsL_law_r3, w ∈ lw_tbl := lw_in_of [85, 86, 87, 128, 129, 130, 131, 133, 132, 142, 143, 144, 145, 159, 160, 161, 162, 163, 636, 637, 638, 639, 641, 646] (by decide +kernel)
set_option maxRecDepth 20000 in
theorem li_wsL_law_r4 : ∀ w ∈ wsL_law_r4, w ∈ lw_tbl := lw_in_of [647, 648, 650, 651, 652, 655, 657, 659, 660, 661, 662, 664, 755, 665, 667, 668, 676, 677, 204, 205, 206, 207, 208, 209] (by decide +kernel)
set_option maxRecDepth 20000 in
theorem li_wsL_law_r5 : ∀ w ∈ wsL_law_r5, w ∈ lw_tbl := lw_in_of [210, 211, 64, 213, 214, 756, 757, 758, 759, 640, 760, 642, 761, 762, 763, 215, 216, 217, 218, 764, 765, 766, 767, 219] (by decide +kernel)
set_option maxRecDepth 20000 in
theorem li_wsL_law_r6 : ∀ w ∈ wsL_law_r6, w ∈ lw_tbl := lw_in_of [220, 221, 222, 223, 224, 225, 226, 66, 227, 228, 229, 230, 88, 91, 95, 99, 231, 233, 0, 234, 236, 237, 238, 240] (by decide +kernel)
set_option maxRecDepth 20000 in
theorem li_wsL_law_r7 : ∀ w ∈ wsL_law_r7, w ∈ lw_tbl := lw_in_of [1, 241, 242, 244, 2, 245, 246, 248, 3, 249, 250, 251, 252, 253, 255, 257, 4, 258, 259, 260, 261, 262, 263, 265] (by decide +kernel)
set_option maxRecDepth 20000 in
theorem li_wsL_law_r8 : ∀ w ∈ wsL_law_r8, w ∈ lw_tbl := lw_in_of [5, 266, 267, 268, 269, 270, 768, 769, 770, 771, 772, 774, 13, 775, 643, 654, 656, 658, 653, 776, 778, 14, 779, 780] (by decide +kernel)
set_option maxRecDepth 20000 in
theorem li_wsL_law_r9 : ∀ w ∈ wsL_law_r9, w ∈ lw_tbl := lw_in_of [782, 15, 783, 784, 786, 16, 787, 788, 790, 17, 791, 792, 794, 18, 795, 271, 272, 273, 274, 181, 275, 276, 277, 278] (by decide +kernel)
set_option maxRecDepth 20000 in
theorem li_wsL_law_r10 : ∀ w ∈ wsL_law_r10, w ∈ lw_tbl := lw_in_of [280, 281, 282, 283, 285, 286, 287, 288, 147, 796, 797, 798, 799, 644, 645, 649, 663, 289, 290, 291, 292, 293, 294, 295] (by decide +kernel)
set_option maxRecDepth 20000 in
theorem li_wsL_law_r11 : ∀ w ∈ wsL_law_r11, w ∈ lw_tbl := lw_in_of [296, 298, 299, 300, 301, 302, 303, 304, 305, 306, 307, 308, 309, 310, 311, 312, 313, 314, 315, 316, 317, 800, 801, 802] (by decide +kernel)
set_option maxRecDepth 20000 in
theorem li_wsL_law_r12 : ∀ w ∈ wsL_law_r12, w ∈ lw_tbl := lw_in_of [803, 666, 804, 806, 19, 807, 808, 810, 20, 811, 318, 319, 320, 321, 322, 323, 324, 325, 326, 327, 328, 329, 330, 331] (by decide +kernel)
set_option maxRecDepth 20000 in
theorem li_wsL_law_r13 : ∀ w ∈ wsL_law_r13, w ∈ lw_tbl := lw_in_of [332, 333, 334, 335, 336, 337, 338, 339, 340, 341, 342, 343, 344, 345, 812, 813, 814, 815, 816, 818, 21, 819, 820, 822] (by decide +kernel)
set_option maxRecDepth 20000 in
theorem li_wsL_law_r14 : ∀ w ∈ wsL_law_r14, w ∈ lw_tbl := lw_in_of [22, 823, 824, 826, 23, 827, 346, 347, 348, 349, 350, 351, 352, 353, 354, 355, 356, 357, 358, 359, 360, 361, 362, 363] (by decide +kernel)
set_option maxRecDepth 20000 in
theorem li_wsL_law_r15 : ∀ w ∈ wsL_law_r15, w ∈ lw_tbl := lw_in_of [364, 365, 366, 367, 368, 369, 370, 371, 372, 373, 374, 375, 377, 378, 828, 829, 830, 831, 832, 834, 24, 835, 836, 838] (by decide +kernel)
set_option maxRecDepth 20000 in
theorem li_wsL_law_r16 : ∀ w ∈ wsL_law_r16, w ∈ lw_tbl := lw_in_of [25, 839, 840, 841, 842, 379, 380, 381, 382, 383, 384, 385, 386, 387, 388, 389, 390, 391, 392, 393, 394, 395, 396, 843] (by decide +kernel)
set_option maxRecDepth 20000 in
theorem li_wsL_law_r17 : ∀ w ∈ wsL_law_r17, w ∈ lw_tbl := lw_in_of [844, 845, 846, 847, 849, 26, 850, 397, 398, 399, 400, 401, 402, 403, 404, 146, 405, 406, 407, 408, 409, 410, 411, 412] (by decide +kernel)
set_option maxRecDepth 20000 in
theorem li_wsL_law_r18 : ∀ w ∈ wsL_law_r18, w ∈ lw_tbl := lw_in_of [413, 414, 416, 6, 417, 418, 419, 420, 421, 423, 7, 424, 425, 427, 8, 428, 851, 852, 853, 854, 855, 857, 27, 858] (by decide +kernel)
set_option maxRecDepth 20000 in
theorem li_wsL_law_r19 : ∀ w ∈ wsL_law_r19, w ∈ lw_tbl := lw_in_of [859, 861, 28, 862, 429, 430, 431, 432, 433, 434, 435, 436, 437, 438, 439, 440, 441, 442, 443, 863, 864, 865, 866, 867] (by decide +kernel)
set_option maxRecDepth 20000 in
theorem li_wsL_law_r20 : ∀ w ∈ wsL_law_r20, w ∈ lw_tbl := lw_in_of [869, 29, 870, 871, 873, 30, 874, 444, 445, 446, 447, 448, 449, 450, 451, 452, 453, 454, 455, 456, 457, 458, 875, 876] (by decide +kernel)
set_option maxRecDepth 20000 in
theorem li_wsL_law_r21 : ∀ w ∈ wsL_law_r21, w ∈ lw_tbl := lw_in_of [877, 878, 879, 881, 31, 882, 883, 885, 32, 886, 459, 460, 461, 462, 463, 464, 465, 466, 467, 887, 888, 889, 890, 891] (by decide +kernel)
set_option maxRecDepth 20000 in
theorem li_wsL_law_r22 : ∀ w ∈ wsL_law_r22, w ∈ lw_tbl := lw_in_of [468, 469, 470, 471, 472, 473, 474, 475, 476, 477, 478, 479, 892, 893, 894, 895, 480, 481, 482, 483, 484, 485, 486, 487] (by decide +kernel)
set_option maxRecDepth 20000 in
theorem li_wsL_law_r23 : ∀ w ∈ wsL_law_r23, w ∈ lw_tbl := lw_in_of [489, 9, 490, 491, 492, 493, 494, 495, 896, 897, 898, 899, 900, 901, 903, 33, 904, 905, 907, 34, 908, 496, 497, 498] (by decide +kernel)
set_option maxRecDepth 20000 in
theorem li_wsL_law_r24 : ∀ w ∈ wsL_law_r24, w ∈ lw_tbl := lw_in_of [499, 909, 910, 911, 912, 500, 501, 502, 503, 913, 914, 915, 916, 504, 505, 506, 507, 508, 509, 510, 511, 513, 10, 514] (by decide +kernel)
set_option maxRecDepth 20000 in
theorem li_wsL_law_r25 : ∀ w ∈ wsL_law_r25, w ∈ lw_tbl := lw_in_of [515, 516, 517, 518, 519, 520, 521, 522, 48, 523, 524, 525, 526, 917, 918, 919, 920, 921, 670, 671, 922, 924, 35, 925] (by decide +kernel)
set_option maxRecDepth 20000 in
theorem li_wsL_law_r26 : ∀ w ∈ wsL_law_r26, w ∈ lw_tbl := lw_in_of [926, 927, 928, 929, 931, 36, 932, 933, 934, 935, 527, 528, 529, 530, 936, 937, 938, 939, 531, 532, 533, 534, 535, 536] (by decide +kernel)
set_option maxRecDepth 20000 in
theorem li_wsL_law_r27 : ∀ w ∈ wsL_law_r27, w ∈ lw_tbl := lw_in_of [537, 538, 539, 540, 541, 542, 543, 940, 941, 942, 943, 944, 945, 946, 947, 948, 949, 951, 37, 952, 953, 955, 38, 956] (by decide +kernel)
set_option maxRecDepth 20000 in
theorem li_wsL_law_r28 : ∀ w ∈ wsL_law_r28, w ∈ lw_tbl := lw_in_of [544, 545, 546, 547, 548, 549, 550, 551, 552, 553, 554, 957, 958, 959, 960, 961, 962, 963, 964, 965, 966, 967, 968, 969] (by decide +kernel)
set_option maxRecDepth 20000 in
theorem li_wsL_law_r29 : ∀ w ∈ wsL_law_r29, w ∈ lw_tbl := lw_in_of [555, 556, 557, 558, 559, 560, 561, 562, 164, 970, 971, 972, 973, 974, 975, 564, 565, 566, 567, 976, 977, 978, 979, 568] (by decide +kernel)
set_option maxRecDepth 20000 in
theorem li_wsL_law_r30 : ∀ w ∈ wsL_law_r30, w ∈ lw_tbl := lw_in_of [569, 570, 571, 572, 573, 574, 575, 980, 981, 982, 983, 672, 673, 578, 579, 580, 581, 582, 584, 11, 585, 586, 587, 588] (by decide +kernel)
set_option maxRecDepth 20000 in
theorem li_wsL_law_r31 : ∀ w ∈ wsL_law_r31, w ∈ lw_tbl := lw_in_of [589, 984, 985, 986, 987, 674, 675, 988, 990, 39, 991, 590, 591, 592, 593, 594, 595, 596, 597, 599, 12, 600, 601, 602] (by decide +kernel)
set_option maxRecDepth 20000 in
theorem li_wsL_law_r32 : ∀ w ∈ wsL_law_r32, w ∈ lw_tbl := lw_in_of [603, 604, 992, 993, 994, 995, 996, 997, 998, 999, 1000, 605, 606, 607, 608, 182, 1001, 1002, 1003, 1004, 669, 609, 610, 611] (by decide +kernel)
set_option maxRecDepth 20000 in
theorem li_wsL_law_r33 : ∀ w ∈ wsL_law_r33, w ∈ lw_tbl := lw_in_of [612, 613, 614, 615, 616, 617, 618, 619, 620, 621, 622, 623, 1005, 1006, 1007, 1008, 1009, 1010, 1011, 624, 625, 626, 627, 628] (by decide +kernel)
set_option maxRecDepth 20000 in
theorem li_wsL_law_r34 : ∀ w ∈ wsL_law_r34, w ∈ lw_tbl := lw_in_of [1012, 1013, 1014, 1015, 629, 630, 631, 632, 633, 1016, 1017, 1018, 1019] (by decide +kernel)
set_option maxRecDepth 20000 in
theorem li_wsX50 : ∀ w ∈ wsX50, w ∈ lw_tbl := lw_in_of [183, 185, 187, 189, 191, 193, 195, 197, 199, 201] (by decide +kernel)
set_option maxRecDepth 20000 in
theorem li_wsX60 : ∀ w ∈ wsX60, w ∈ lw_tbl := lw_in_of [678, 680, 682, 684, 686, 688, 690, 692, 694, 696, 698, 700, 702, 704, 706, 708, 710, 712, 714, 716, 718, 720, 722, 724, 726, 728, 730, 732, 734, 736, 738, 740, 742, 744, 746, 748, 750, 752] (by decide +kernel)
set_option maxRecDepth 20000 in
theorem li_wsX40 : ∀ w ∈ wsX40, w ∈ lw_tbl := lw_in_of [67, 69, 71] (by decide +kernel)
set_option maxRecDepth 20000 in
theorem li_wsX20 : ∀ w ∈ wsX20, w ∈ lw_tbl := lw_in_of [103, 105, 107, 109, 111, 113, 115, 117, 119, 121, 123] (by decide +kernel)
set_option maxRecDepth 20000 in
theorem li_wsX30 : ∀ w ∈ wsX30, w ∈ lw_tbl := lw_in_of [134, 136] (by decide +kernel)
set_option maxRecDepth 20000 in
theorem li_wsX00 : ∀ w ∈ wsX00, w ∈ lw_tbl := lw_in_of [149, 151, 153] (by decide +kernel)
set_option maxRecDepth 20000 in
theorem li_wsX10 : ∀ w ∈ wsX10, w ∈ lw_tbl := lw_in_of [166, 168, 170] (by decide +kernel)
theorem wsL_law_in : ∀ w ∈ wsL_law, w ∈ lw_tbl := (List.forall_mem_append.mpr ⟨(List.forall_mem_append.mpr ⟨(List.forall_mem_append.mpr ⟨(List.forall_mem_append.mpr ⟨(List.forall_mem_append.mpr ⟨(List.forall_mem_append.mpr ⟨(List.forall_mem_append.mpr ⟨(List.forall_mem_append.mpr ⟨(List.forall_mem_append.mpr ⟨li_wsL_law_r1, (List.forall_mem_append.mpr ⟨li_wsL_law_r2, (List.forall_mem_append.mpr ⟨li_wsL_law_r3, (List.forall_mem_append.mpr ⟨li_wsL_law_r4, (List.forall_mem_append.mpr ⟨li_wsL_law_r5, (List.forall_mem_append.mpr ⟨li_wsL_law_r6, (List.forall_mem_append.mpr ⟨li_wsL_law_r7, (List.forall_mem_append.mpr ⟨li_wsL_law_r8, (List.forall_mem_append.mpr ⟨li_wsL_law_r9, (List.forall_mem_append.mpr ⟨li_wsL_law_r10, (List.forall_mem_append.mpr ⟨li_wsL_law_r11, (List.forall_mem_append.mpr ⟨li_wsL_law_r12, (List.forall_mem_append.mpr ⟨li_wsL_law_r13, (List.forall_mem_append.mpr ⟨li_wsL_law_r14, (List.forall_mem_append.mpr ⟨li_wsL_law_r15, (List.forall_mem_append.mpr ⟨li_wsL_law_r16, (List.forall_mem_append.mpr ⟨li_wsL_law_r17, (List.forall_mem_append.mpr ⟨li_wsL_law_r18, (List.forall_mem_append.mpr ⟨li_wsL_law_r19, (List.forall_mem_append.mpr ⟨li_wsL_law_r20, (List.forall_mem_append.mpr ⟨li_wsL_law_r21, (List.forall_mem_append.mpr ⟨li_wsL_law_r22, (List.forall_mem_append.mpr ⟨li_wsL_law_r23, (List.forall_mem_append.mpr ⟨li_wsL_law_r24, (List.forall_mem_append.mpr ⟨li_wsL_law_r25, (List.forall_mem_append.mpr ⟨li_wsL_law_r26, (List.forall_mem_append.mpr ⟨li_wsL_law_r27, (List.forall_mem_append.mpr ⟨li_wsL_law_r28, (List.forall_mem_append.mpr ⟨li_wsL_law_r29, (List.forall_mem_append.mpr ⟨li_wsL_law_r30, (List.forall_mem_append.mpr ⟨li_wsL_law_r31, (List.forall_mem_append.mpr ⟨li_wsL_law_r32, (List.forall_mem_append.mpr ⟨li_wsL_law_r33, li_wsL_law_r34⟩)⟩)⟩)⟩)⟩)⟩)⟩)⟩)⟩)⟩)⟩)⟩)⟩)⟩)⟩)⟩)⟩)⟩)⟩)⟩)⟩)⟩)⟩)⟩)⟩)⟩)⟩)⟩)⟩)⟩)⟩)⟩)⟩), li_wsX50⟩), li_wsX60⟩), li_wsX40⟩), li_wsX20⟩), li_wsX30⟩), li_wsX00⟩), li_wsX10⟩), fun _ h => absurd h List.not_mem_nil⟩)
theorem inlX0 : ∀ w ∈ wsX00, w ∈ wsL_law := fun _ h => List.mem_append_left _ (List.mem_append_left _ (List.mem_append_right _ h))
theorem inX0 : ∀ w ∈ wsX00, w ∈ lw_tbl := fun w h => wsL_law_in w (inlX0 w h)
theorem inlX1 : ∀ w ∈ wsX10, w ∈ wsL_law := fun _ h => List.mem_append_left _ (List.mem_append_right _ h)
theorem inX1 : ∀ w ∈ wsX10, w ∈ lw_tbl := fun w h => wsL_law_in w (inlX1 w h)
theorem inlX2 : ∀ w ∈ wsX20, w ∈ wsL_law := fun _ h => List.mem_append_left _ (List.mem_append_left _ (List.mem_append_left _ (List.mem_append_left _ (List.mem_append_right _ h))))
theorem inX2 : ∀ w ∈ wsX20, w ∈ lw_tbl := fun w h => wsL_law_in w (inlX2 w h)
theorem inlX3 : ∀ w ∈ wsX30, w ∈ wsL_law := fun _ h => List.mem_append_left _ (List.mem_append_left _ (List.mem_append_left _ (List.mem_append_right _ h)))
theorem inX3 : ∀ w ∈ wsX30, w ∈ lw_tbl := fun w h => wsL_law_in w (inlX3 w h)
theorem inlX4 : ∀ w ∈ wsX40, w ∈ wsL_law := fun _ h => List.mem_append_left _ (List.mem_append_left _ (List.mem_append_left _ (List.mem_append_left _ (List.mem_append_left _ (List.mem_append_right _ h)))))
theorem inX4 : ∀ w ∈ wsX40, w ∈ lw_tbl := fun w h => wsL_law_in w (inlX4 w h)
theorem inlX5 : ∀ w ∈ wsX50, w ∈ wsL_law := fun _ h => List.mem_append_left _ (List.mem_append_left _ (List.mem_append_left _ (List.mem_append_left _ (List.mem_append_left _ (List.mem_append_left _ (List.mem_append_left _ (List.mem_append_right _ h)))))))
theorem inX5 : ∀ w ∈ wsX50, w ∈ lw_tbl := fun w h => wsL_law_in w (inlX5 w h)
theorem inlX6 : ∀ w ∈ wsX60, w ∈ wsL_law := fun _ h => List.mem_append_left _ (List.mem_append_left _ (List.mem_append_left _ (List.mem_append_left _ (List.mem_append_left _ (List.mem_append_left _ (List.mem_append_right _ h))))))
theorem inX6 : ∀ w ∈ wsX60, w ∈ lw_tbl := fun w h => wsL_law_in w (inlX6 w h)
theorem inJ6 : ∀ w ∈ wsJ60, w ∈ lw_tbl := by decide +kernel
abbrev vwCl : List vw_C := [(RX0, TX0, 3), (RX1, TX1, 3), (RX2, TX2, 11), (RX3, TX3, 2), (RX4, TX4, 3), (RX5, TX5, 10), (RX6, TX6, 38)]
