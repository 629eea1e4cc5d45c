theorem dL_turn_0 : decode cL_turn 0 = .ok (.aload_n 3, 1) := by decide +kernel
theorem dL_turn_1 : decode cL_turn 1 = .ok (.iconst 0, 1) := by decide +kernel
theorem dL_turn_2 : decode cL_turn 2 = .ok (.aload_n 0, 1) := by decide +kernel
theorem dL_turn_3 : decode cL_turn 3 = .ok (.dload_n 1, 1) := by decide +kernel
theorem dL_turn_4 : decode cL_turn 4 = .ok (.invokevirtual 7, 3) := by decide +kernel
theorem dL_turn_7 : decode cL_turn 7 = .ok (.dastore, 1) := by decide +kernel
theorem dL_turn_8 : decode cL_turn 8 = .ok (.goto 11, 3) := by decide +kernel
theorem dL_turn_11 : decode cL_turn 11 = .ok (.astore 4, 2) := by decide +kernel
theorem dL_turn_13 : decode cL_turn 13 = .ok (.iconst 1, 1) := by decide +kernel
theorem dL_turn_14 : decode cL_turn 14 = .ok (.ireturn, 1) := by decide +kernel
theorem dL_turn_15 : decode cL_turn 15 = .ok (.astore 4, 2) := by decide +kernel
theorem dL_turn_17 : decode cL_turn 17 = .ok (.iconst 2, 1) := by decide +kernel
theorem dL_turn_18 : decode cL_turn 18 = .ok (.ireturn, 1) := by decide +kernel
theorem dL_turn_19 : decode cL_turn 19 = .ok (.iconst 0, 1) := by decide +kernel
theorem dL_turn_20 : decode cL_turn 20 = .ok (.ireturn, 1) := by decide +kernel
set_option maxRecDepth 20000 in
theorem ggL_back_X6_back : GoodIn wsL_back wsX6_back := goodIn_ca (goodIn_ca (goodIn_r _ [7, 8, 9, 10, 11, 12, 13, 14, 15, 16, 17, 18, 19, 20, 21, 22, 23, 6, 24, 25, 26, 27, 28, 29, 30, 31, 32, 33, 34, 35, 36, 37, 38, 39, 40, 41, 42, 43, 44, 45, 46, 47, 48, 49, 50, 51, 52, 53, 54, 55, 56, 57, 58, 59, 60, 61, 62, 63, 64, 65, 66, 67, 68, 69, 70, 71, 72, 73, 74, 75, 76, 77, 78, 79, 80, 81, 82, 83, 84, 85, 86, 87, 88, 89, 90, 91, 92, 93, 94, 95, 96, 97, 98, 99, 100, 101, 102, 103, 104, 105, 106, 107, 108, 109, 110, 111, 112, 113, 114, 115, 116, 117, 118, 119] (by decide +kernel) (by decide +kernel)) (goodIn_sub (fun _ h => List.mem_cons_of_mem _ (List.mem_append_left _ (List.mem_append_right _ h))) (by decide +kernel))) (goodIn_sub (fun _ h => List.mem_cons_of_mem _ (List.mem_append_right _ h)) (by decide +kernel))
set_option maxRecDepth 20000 in
theorem gL_back_X6_back : GoodIn wsL_back (wsV RL 17 RX6 yX6_back wsX6_back) := goodIn_app (goodIn_of _ (by decide +kernel)) ggL_back_X6_back
theorem dL_back_0 : decode cL_back 0 = .ok (.aload_n 3, 1) := by decide +kernel
theorem dL_back_1 : decode cL_back 1 = .ok (.iconst 0, 1) := by decide +kernel
theorem dL_back_2 : decode cL_back 2 = .ok (.aload_n 0, 1) := by decide +kernel
theorem dL_back_3 : decode cL_back 3 = .ok (.dload_n 1, 1) := by decide +kernel
theorem dL_back_4 : decode cL_back 4 = .ok (.invokevirtual 17, 3) := by decide +kernel
theorem dL_back_7 : decode cL_back 7 = .ok (.dastore, 1) := by decide +kernel
theorem dL_back_8 : decode cL_back 8 = .ok (.goto 11, 3) := by decide +kernel
theorem dL_back_11 : decode cL_back 11 = .ok (.astore 4, 2) := by decide +kernel
theorem dL_back_13 : decode cL_back 13 = .ok (.iconst 1, 1) := by decide +kernel
theorem dL_back_14 : decode cL_back 14 = .ok (.ireturn, 1) := by decide +kernel
theorem dL_back_15 : decode cL_back 15 = .ok (.astore 4, 2) := by decide +kernel
theorem dL_back_17 : decode cL_back 17 = .ok (.iconst 2, 1) := by decide +kernel
theorem dL_back_18 : decode cL_back 18 = .ok (.ireturn, 1) := by decide +kernel
theorem dL_back_19 : decode cL_back 19 = .ok (.iconst 0, 1) := by decide +kernel
theorem dL_back_20 : decode cL_back 20 = .ok (.ireturn, 1) := by decide +kernel
set_option maxRecDepth 20000 in
theorem ggL_law_X6_init : GoodIn wsL_law wsX6_init := goodIn_r _ [12, 13, 14, 15, 16, 17, 18, 19, 20, 21, 22, 23, 24, 25, 26, 27, 28, 29, 30, 31, 32, 33, 34, 35, 36, 37, 38, 39, 40, 41, 42, 43, 44, 45, 46, 47, 48, 49, 50, 51, 52, 53, 54, 55, 56, 57, 58, 59, 60, 61, 62, 63, 64, 65, 66, 67, 68, 69, 70, 71, 72, 73, 74, 75, 76, 77, 78, 79, 80, 81, 82, 83, 84, 85, 86, 87, 88, 89, 90, 91, 92, 93, 94, 95, 96, 97, 98, 99, 100, 101, 102, 103, 104, 105, 106, 107, 108, 109, 110, 111, 789, 790, 791, 792, 793, 794, 795, 796, 797, 733, 734, 735, 736, 737, 738, 739, 740, 741, 742, 743, 744, 798, 799, 800, 801, 802, 803, 804, 805, 806, 807, 808, 809, 810, 811, 812, 813, 814, 815, 816, 817, 818, 819, 820, 821, 822, 823, 824, 825, 826] (by decide +kernel) (by decide +kernel)
set_option maxRecDepth 20000 in
theorem gL_law_X6_init : GoodIn wsL_law (wsX6_init) := ggL_law_X6_init
set_option maxRecDepth 20000 in
theorem ggL_law_X7_init : GoodIn wsL_law wsX7_init := goodIn_r _ [114, 115, 14, 15, 56, 116, 117, 118, 119, 120, 121, 58, 122, 123, 124, 125, 126, 127, 128, 129, 130, 131, 132, 133, 134, 135, 136, 745, 746, 747, 748, 749, 750, 751, 752, 753, 754, 755, 756, 757, 758, 759, 760, 761, 762, 763, 764, 765, 766, 767, 768, 769, 770, 771, 772, 773, 774, 775, 776, 777, 778, 779, 780, 781, 782, 783, 784, 785, 786, 787, 788] (by decide +kernel) (by decide +kernel)
set_option maxRecDepth 20000 in
theorem gL_law_X7_init : GoodIn wsL_law (wsX7_init) := ggL_law_X7_init
set_option maxRecDepth 20000 in
theorem ggL_law_X6_type : GoodIn wsL_law wsX6_type := goodIn_r _ [140, 19, 141, 142, 143, 49, 144, 67, 145, 146, 147, 148, 149, 150, 151, 66, 733, 734, 735, 736, 737, 738, 739, 740, 741, 742, 743, 744, 789, 790, 791, 792, 793, 794, 795, 796, 797, 825, 826] (by decide +kernel) (by decide +kernel)
set_option maxRecDepth 20000 in
theorem gL_law_X6_type : GoodIn wsL_law (wsV RL 26 RX6 yX6_type wsX6_type) := goodIn_app (goodIn_of _ (by decide +kernel)) ggL_law_X6_type
set_option maxRecDepth 20000 in
theorem ggL_law_X7_type : GoodIn wsL_law wsX7_type := goodIn_r _ [155, 156, 157, 158, 159, 160, 116, 745, 746, 747, 748, 749, 750, 751, 752, 753, 754, 755, 756, 757, 758, 759, 760, 761, 762, 763, 764, 765, 766, 767, 768, 769, 770, 771, 772, 773, 774, 775, 776, 777, 778, 779, 780, 781, 782, 783, 784, 785, 786, 787, 788] (by decide +kernel) (by decide +kernel)
set_option maxRecDepth 20000 in
theorem gL_law_X7_type : GoodIn wsL_law (wsV RL 30 RX7 yX7_type wsX7_type) := goodIn_app (goodIn_of _ (by decide +kernel)) ggL_law_X7_type
set_option maxRecDepth 20000 in
theorem ggL_law_X6_compile : GoodIn wsL_law wsX6_compile := goodIn_r _ [164, 42, 23, 19, 35, 36, 31, 165, 166, 167, 22, 168, 88, 169, 170, 171, 18, 172, 52, 50, 53, 54, 55, 59, 173, 174, 175, 176, 34, 177, 78, 79, 178, 179, 180, 49, 181, 182, 183, 184, 185, 67, 66, 186, 187, 188, 189, 57, 60, 61, 190, 191, 192, 193, 194, 195, 196, 197, 198, 199, 200, 201, 202, 203, 204, 205, 206, 207, 208, 209, 210, 211, 212, 213, 214, 215, 216, 217, 218, 72, 73, 219, 220, 221, 222, 223, 224, 225, 226, 227, 228, 229, 230, 231, 232, 233, 234, 235, 236, 237, 238, 239, 240, 241, 242, 243, 244, 245, 246, 247, 248, 249, 250, 251, 252, 253, 254, 74, 75, 76, 77, 255, 256, 257, 258, 259, 260, 261, 262, 263, 264, 265, 30, 266, 108, 733, 734, 735, 736, 737, 738, 739, 740, 741, 742, 743, 744, 798, 799, 800, 801, 802, 803, 789, 790, 791, 792, 793, 794, 795, 796, 797, 825, 826, 814, 815, 816, 817, 818, 819, 820, 821, 822, 823, 824, 811, 812, 813] (by decide +kernel) (by decide +kernel)
set_option maxRecDepth 20000 in
theorem gL_law_X6_compile : GoodIn wsL_law (wsV RL 31 RX6 yX6_compile wsX6_compile) := goodIn_app (goodIn_of _ (by decide +kernel)) ggL_law_X6_compile
set_option maxRecDepth 20000 in
theorem ggL_law_X7_compile : GoodIn wsL_law wsX7_compile := goodIn_r _ [270, 156, 271, 128, 272, 273, 274, 157, 275, 134, 276, 277, 278, 5, 279, 280, 281, 282, 283, 127, 125, 126, 284, 285, 286, 287, 288, 289, 290, 291, 116, 292, 293, 294, 295, 296, 297, 298, 299, 300, 301, 302, 303, 304, 305, 123, 124, 306, 307, 308, 309, 310, 311, 312, 313, 314, 117, 118, 119, 315, 316, 317, 318, 122, 120, 121, 319, 320, 321, 322, 323, 324, 325, 326, 327, 328, 329, 330, 331, 745, 746, 747, 748, 749, 750, 751, 752, 753, 754, 755, 756, 757, 758, 759, 760, 761, 762, 763, 764, 765, 766, 767, 768, 769, 770, 771, 772, 773, 774, 775, 776, 777, 778, 779, 780, 781, 782, 783, 784, 785, 786, 787, 788] (by decide +kernel) (by decide +kernel)
set_option maxRecDepth 20000 in
theorem gL_law_X7_compile : GoodIn wsL_law (wsV RL 35 RX7 yX7_compile wsX7_compile) := goodIn_app (goodIn_of _ (by decide +kernel)) ggL_law_X7_compile
set_option maxRecDepth 20000 in
theorem ggL_law_X6_length : GoodIn wsL_law wsX6_length := goodIn_r _ [335, 35, 733, 734, 735, 736, 737, 738, 739, 740, 741, 742, 743, 744, 814, 815, 816, 817, 818, 819, 820, 821, 822, 823, 824] (by decide +kernel) (by decide +kernel)
set_option maxRecDepth 20000 in
theorem gL_law_X6_length : GoodIn wsL_law (wsV RL 36 RX6 yX6_length wsX6_length) := goodIn_app (goodIn_of _ (by decide +kernel)) ggL_law_X6_length
set_option maxRecDepth 20000 in
theorem ggL_law_X7_length : GoodIn wsL_law wsX7_length := goodIn_r _ [339, 156, 273, 745, 746, 747, 748, 749, 750, 751, 752, 753, 754, 755, 756, 757, 758, 759, 760, 761, 762, 763, 764, 765, 766, 767, 768, 769, 770, 771, 772, 773, 774, 775, 776, 777, 778, 779, 780, 781, 782, 783, 784, 785, 786, 787, 788] (by decide +kernel) (by decide +kernel)
set_option maxRecDepth 20000 in
theorem gL_law_X7_length : GoodIn wsL_law (wsV RL 40 RX7 yX7_length wsX7_length) := goodIn_app (goodIn_of _ (by decide +kernel)) ggL_law_X7_length
set_option maxRecDepth 20000 in
theorem ggL_law_X6_design : GoodIn wsL_law wsX6_design := goodIn_r _ [343, 35, 344, 345, 346, 34, 347, 80, 81, 82, 78, 72, 73, 348, 349, 350, 351, 79, 352, 353, 354, 355, 356, 357, 358, 359, 360, 361, 362, 363, 75, 76, 77, 74, 733, 734, 735, 736, 737, 738, 739, 740, 741, 742, 743, 744, 814, 815, 816, 817, 818, 819, 820, 821, 822, 823, 824] (by decide +kernel) (by decide +kernel)
set_option maxRecDepth 20000 in
theorem gL_law_X6_design : GoodIn wsL_law (wsV RL 41 RX6 yX6_design wsX6_design) := goodIn_app (goodIn_of _ (by decide +kernel)) ggL_law_X6_design
set_option maxRecDepth 20000 in
theorem ggL_law_X7_design : GoodIn wsL_law wsX7_design := goodIn_r _ [367, 156, 273, 368, 369, 370, 5, 371, 117, 122, 120, 121, 119, 327, 118, 319, 320, 321, 322, 323, 324, 325, 326, 328, 745, 746, 747, 748, 749, 750, 751, 752, 753, 754, 755, 756, 757, 758, 759, 760, 761, 762, 763, 764, 765, 766, 767, 768, 769, 770, 771, 772, 773, 774, 775, 776, 777, 778, 779, 780, 781, 782, 783, 784, 785, 786, 787, 788] (by decide +kernel) (by decide +kernel)
set_option maxRecDepth 20000 in
theorem gL_law_X7_design : GoodIn wsL_law (wsV RL 45 RX7 yX7_design wsX7_design) := goodIn_app (goodIn_of _ (by decide +kernel)) ggL_law_X7_design
set_option maxRecDepth 20000 in
theorem ggL_law_X6_start : GoodIn wsL_law wsX6_start := goodIn_r _ [375, 42, 23, 35, 165, 166, 167, 22, 168, 88, 733, 734, 735, 736, 737, 738, 739, 740, 741, 742, 743, 744, 814, 815, 816, 817, 818, 819, 820, 821, 822, 823, 824, 798, 799, 800, 801, 802, 803] (by decide +kernel) (by decide +kernel)
set_option maxRecDepth 20000 in
theorem gL_law_X6_start : GoodIn wsL_law (wsV RL 46 RX6 yX6_start wsX6_start) := goodIn_app (goodIn_of _ (by decide +kernel)) ggL_law_X6_start
set_option maxRecDepth 20000 in
theorem ggL_law_X7_start : GoodIn wsL_law wsX7_start := goodIn_r _ [379, 156, 271, 273, 128, 745, 746, 747, 748, 749, 750, 751, 752, 753, 754, 755, 756, 757, 758, 759, 760, 761, 762, 763, 764, 765, 766, 767, 768, 769, 770, 771, 772, 773, 774, 775, 776, 777, 778, 779, 780, 781, 782, 783, 784, 785, 786, 787, 788] (by decide +kernel) (by decide +kernel)
set_option maxRecDepth 20000 in
theorem gL_law_X7_start : GoodIn wsL_law (wsV RL 50 RX7 yX7_start wsX7_start) := goodIn_app (goodIn_of _ (by decide +kernel)) ggL_law_X7_start
set_option maxRecDepth 20000 in
theorem ggL_law_X6_stop : GoodIn wsL_law wsX6_stop := goodIn_r _ [383, 23, 384, 385, 386, 22, 387, 88, 90, 89, 91, 733, 734, 735, 736, 737, 738, 739, 740, 741, 742, 743, 744, 798, 799, 800, 801, 802, 803] (by decide +kernel) (by decide +kernel)
set_option maxRecDepth 20000 in
theorem gL_law_X6_stop : GoodIn wsL_law (wsV RL 51 RX6 yX6_stop wsX6_stop) := goodIn_app (goodIn_of _ (by decide +kernel)) ggL_law_X6_stop
set_option maxRecDepth 20000 in
theorem ggL_law_X7_stop : GoodIn wsL_law wsX7_stop := goodIn_r _ [391, 156, 271, 392, 393, 394, 5, 395, 129, 396, 397, 745, 746, 747, 748, 749, 750, 751, 752, 753, 754, 755, 756, 757, 758, 759, 760, 761, 762, 763, 764, 765, 766, 767, 768, 769, 770, 771, 772, 773, 774, 775, 776, 777, 778, 779, 780, 781, 782, 783, 784, 785, 786, 787, 788] (by decide +kernel) (by decide +kernel)
set_option maxRecDepth 20000 in
theorem gL_law_X7_stop : GoodIn wsL_law (wsV RL 54 RX7 yX7_stop wsX7_stop) := goodIn_app (goodIn_of _ (by decide +kernel)) ggL_law_X7_stop
set_option maxRecDepth 20000 in
theorem ggL_law_L_turn : GoodIn wsL_law wsL_turn := goodIn_ca (goodIn_ca (goodIn_r _ [401, 402, 403, 404, 405, 406, 2, 407, 408, 409, 410, 411, 42, 23, 412, 165, 166, 167, 22, 168, 88, 413, 414, 415, 416, 417, 418, 419, 420, 421, 422, 423, 424, 87, 425, 426, 427, 428, 429, 205, 206, 207, 89, 430, 431, 432, 433, 35, 36, 38, 37, 31, 344, 345, 346, 34, 347, 80, 81, 82, 78, 72, 73, 348, 349, 350, 351, 79, 352, 353, 354, 355, 356, 357, 358, 359, 360, 361, 362, 363, 75, 76, 77, 74, 434, 435, 436, 437, 41, 39, 384, 385, 386, 387, 90, 91, 438, 439, 440, 30, 441, 110, 108, 109, 442, 443, 444, 445, 446, 447, 448, 449, 27, 40, 450, 451, 452, 26, 453, 100, 97, 98, 99, 101, 454, 102, 103, 455, 456, 457, 458, 459, 460, 461, 462, 463, 464, 465, 466, 467, 468, 469, 470, 471, 472, 473, 474, 475, 476, 477, 733, 734, 735, 736, 737, 738, 739, 740, 741, 742, 743, 744, 798, 799, 800, 801, 802, 803, 814, 815, 816, 817, 818, 819, 820, 821, 822, 823, 824, 811, 812, 813, 804, 805, 806, 807, 808, 809, 810] (by decide +kernel) (by decide +kernel)) (goodIn_sub (fun _ h => List.mem_append_left _ (List.mem_append_right _ h)) (by decide +kernel))) (goodIn_sub (fun _ h => List.mem_append_right _ h) (by decide +kernel))
set_option maxRecDepth 20000 in
theorem gL_law_L_turn : GoodIn wsL_law (va_wsS RL 57 yL_turn wsL_turn) := goodIn_app (goodIn_of _ (by decide +kernel)) ggL_law_L_turn
set_option maxRecDepth 20000 in
theorem ggL_law_X7_turn : GoodIn wsL_law wsX7_turn := goodIn_r _ [481, 271, 128, 482, 156, 483, 484, 396, 485, 486, 487, 5, 488, 489, 490, 491, 492, 275, 493, 494, 495, 496, 497, 498, 368, 369, 370, 371, 117, 122, 120, 121, 119, 327, 118, 319, 320, 321, 322, 323, 324, 325, 326, 328, 392, 393, 394, 395, 129, 397, 499, 500, 501, 502, 503, 134, 135, 136, 504, 505, 506, 507, 508, 130, 131, 132, 509, 510, 273, 745, 746, 747, 748, 749, 750, 751, 752, 753, 754, 755, 756, 757, 758, 759, 760, 761, 762, 763, 764, 765, 766, 767, 768, 769, 770, 771, 772, 773, 774, 775, 776, 777, 778, 779, 780, 781, 782, 783, 784, 785, 786, 787, 788] (by decide +kernel) (by decide +kernel)
set_option maxRecDepth 20000 in
theorem gL_law_X7_turn : GoodIn wsL_law (wsV RL 62 RX7 yX7_turn wsX7_turn) := goodIn_app (goodIn_of _ (by decide +kernel)) ggL_law_X7_turn
set_option maxRecDepth 20000 in
theorem ggL_law_X7_thrown : GoodIn wsL_law wsX7_thrown := goodIn_r _ [514, 156, 745, 746, 747, 748, 749, 750, 751, 752, 753, 754, 755, 756, 757, 758, 759, 760, 761, 762, 763, 764, 765, 766, 767, 768, 769, 770, 771, 772, 773, 774, 775, 776, 777, 778, 779, 780, 781, 782, 783, 784, 785, 786, 787, 788] (by decide +kernel) (by decide +kernel)
set_option maxRecDepth 20000 in
theorem gL_law_X7_thrown : GoodIn wsL_law (wsV RL 63 RX7 yX7_thrown wsX7_thrown) := goodIn_app (goodIn_of _ (by decide +kernel)) ggL_law_X7_thrown
set_option maxRecDepth 20000 in
theorem ggL_law_L_back : GoodIn wsL_law wsL_back := goodIn_ca (goodIn_ca (goodIn_r _ [517, 402, 403, 518, 519, 520, 2, 521, 408, 409, 410, 411, 42, 23, 35, 522, 165, 166, 167, 22, 168, 88, 413, 414, 415, 416, 523, 524, 525, 526, 527, 528, 529, 530, 531, 532, 533, 534, 39, 535, 536, 537, 538, 27, 36, 539, 540, 541, 26, 542, 101, 100, 102, 103, 99, 543, 544, 545, 546, 455, 456, 457, 458, 459, 460, 461, 547, 548, 549, 34, 550, 79, 551, 552, 206, 553, 348, 349, 350, 351, 474, 475, 476, 477, 733, 734, 735, 736, 737, 738, 739, 740, 741, 742, 743, 744, 814, 815, 816, 817, 818, 819, 820, 821, 822, 823, 824, 798, 799, 800, 801, 802, 803, 804, 805, 806, 807, 808, 809, 810] (by decide +kernel) (by decide +kernel)) (goodIn_sub (fun _ h => List.mem_append_left _ (List.mem_append_right _ h)) (by decide +kernel))) (goodIn_sub (fun _ h => List.mem_append_right _ h) (by decide +kernel))
set_option maxRecDepth 20000 in
theorem gL_law_L_back : GoodIn wsL_law (va_wsS RL 66 yL_back wsL_back) := goodIn_app (goodIn_of _ (by decide +kernel)) ggL_law_L_back
set_option maxRecDepth 20000 in
theorem ggL_law_X7_back : GoodIn wsL_law wsX7_back := goodIn_r _ [557, 271, 273, 128, 558, 156, 483, 484, 485, 559, 560, 561, 5, 562, 495, 563, 564, 565, 566, 567, 568, 569, 508, 509, 132, 510, 275, 498, 745, 746, 747, 748, 749, 750, 751, 752, 753, 754, 755, 756, 757, 758, 759, 760, 761, 762, 763, 764, 765, 766, 767, 768, 769, 770, 771, 772, 773, 774, 775, 776, 777, 778, 779, 780, 781, 782, 783, 784, 785, 786, 787, 788] (by decide +kernel) (by decide +kernel)
set_option maxRecDepth 20000 in
theorem gL_law_X7_back : GoodIn wsL_law (wsV RL 68 RX7 yX7_back wsX7_back) := goodIn_app (goodIn_of _ (by decide +kernel)) ggL_law_X7_back
set_option maxRecDepth 20000 in
theorem ggL_law_X6_weft : GoodIn wsL_law wsX6_weft := goodIn_r _ [573, 42, 41, 733, 734, 735, 736, 737, 738, 739, 740, 741, 742, 743, 744] (by decide +kernel) (by decide +kernel)
set_option maxRecDepth 20000 in
theorem gL_law_X6_weft : GoodIn wsL_law (wsV RL 69 RX6 yX6_weft wsX6_weft) := goodIn_app (goodIn_of _ (by decide +kernel)) ggL_law_X6_weft
set_option maxRecDepth 20000 in
theorem ggL_law_X7_weft : GoodIn wsL_law wsX7_weft := goodIn_r _ [577, 156, 128, 494, 745, 746, 747, 748, 749, 750, 751, 752, 753, 754, 755, 756, 757, 758, 759, 760, 761, 762, 763, 764, 765, 766, 767, 768, 769, 770, 771, 772, 773, 774, 775, 776, 777, 778, 779, 780, 781, 782, 783, 784, 785, 786, 787, 788] (by decide +kernel) (by decide +kernel)
set_option maxRecDepth 20000 in
theorem gL_law_X7_weft : GoodIn wsL_law (wsV RL 73 RX7 yX7_weft wsX7_weft) := goodIn_app (goodIn_of _ (by decide +kernel)) ggL_law_X7_weft
set_option maxRecDepth 20000 in
theorem ggL_law_X6_findPick : GoodIn wsL_law wsX6_findPick := goodIn_r _ [581, 42, 23, 39, 165, 166, 167, 22, 168, 88, 523, 524, 525, 2, 526, 527, 528, 529, 530, 531, 532, 533, 534, 535, 536, 537, 538, 27, 35, 36, 539, 540, 541, 26, 542, 101, 100, 102, 103, 99, 543, 544, 545, 546, 455, 456, 457, 458, 459, 460, 461, 547, 548, 549, 34, 550, 79, 551, 552, 206, 553, 348, 349, 350, 351, 733, 734, 735, 736, 737, 738, 739, 740, 741, 742, 743, 744, 798, 799, 800, 801, 802, 803, 804, 805, 806, 807, 808, 809, 810, 814, 815, 816, 817, 818, 819, 820, 821, 822, 823, 824] (by decide +kernel) (by decide +kernel)
set_option maxRecDepth 20000 in
theorem gL_law_X6_findPick : GoodIn wsL_law (wsV RL 74 RX6 yX6_findPick wsX6_findPick) := goodIn_app (goodIn_of _ (by decide +kernel)) ggL_law_X6_findPick
set_option maxRecDepth 20000 in
theorem ggL_law_X7_findPick : GoodIn wsL_law wsX7_findPick := goodIn_r _ [585, 156, 271, 495, 128, 484, 559, 560, 561, 5, 562, 563, 564, 565, 566, 567, 568, 569, 508, 509, 132, 510, 275, 273, 498, 745, 746, 747, 748, 749, 750, 751, 752, 753, 754, 755, 756, 757, 758, 759, 760, 761, 762, 763, 764, 765, 766, 767, 768, 769, 770, 771, 772, 773, 774, 775, 776, 777, 778, 779, 780, 781, 782, 783, 784, 785, 786, 787, 788] (by decide +kernel) (by decide +kernel)
set_option maxRecDepth 20000 in
theorem gL_law_X7_findPick : GoodIn wsL_law (wsV RL 77 RX7 yX7_findPick wsX7_findPick) := goodIn_app (goodIn_of _ (by decide +kernel)) ggL_law_X7_findPick
set_option maxRecDepth 20000 in
theorem ggL_law_X6_jump : GoodIn wsL_law wsX6_jump := goodIn_r _ [589, 42, 23, 35, 36, 165, 166, 167, 22, 168, 88, 590, 349, 350, 34, 351, 79, 733, 734, 735, 736, 737, 738, 739, 740, 741, 742, 743, 744, 798, 799, 800, 801, 802, 803, 814, 815, 816, 817, 818, 819, 820, 821, 822, 823, 824] (by decide +kernel) (by decide +kernel)
set_option maxRecDepth 20000 in
theorem gL_law_X6_jump : GoodIn wsL_law (wsV RL 78 RX6 yX6_jump wsX6_jump) := goodIn_app (goodIn_of _ (by decide +kernel)) ggL_law_X6_jump
set_option maxRecDepth 20000 in
theorem ggL_law_X7_jump : GoodIn wsL_law wsX7_jump := goodIn_r _ [594, 156, 271, 484, 273, 128, 275, 745, 746, 747, 748, 749, 750, 751, 752, 753, 754, 755, 756, 757, 758, 759, 760, 761, 762, 763, 764, 765, 766, 767, 768, 769, 770, 771, 772, 773, 774, 775, 776, 777, 778, 779, 780, 781, 782, 783, 784, 785, 786, 787, 788] (by decide +kernel) (by decide +kernel)
set_option maxRecDepth 20000 in
theorem gL_law_X7_jump : GoodIn wsL_law (wsV RL 82 RX7 yX7_jump wsX7_jump) := goodIn_app (goodIn_of _ (by decide +kernel)) ggL_law_X7_jump
set_option maxRecDepth 20000 in
theorem ggL_law_X6_speed : GoodIn wsL_law wsX6_speed := goodIn_r _ [598, 23, 599, 600, 601, 165, 166, 167, 22, 168, 88, 733, 734, 735, 736, 737, 738, 739, 740, 741, 742, 743, 744, 798, 799, 800, 801, 802, 803] (by decide +kernel) (by decide +kernel)
set_option maxRecDepth 20000 in
theorem gL_law_X6_speed : GoodIn wsL_law (wsV RL 84 RX6 yX6_speed wsX6_speed) := goodIn_app (goodIn_of _ (by decide +kernel)) ggL_law_X6_speed
set_option maxRecDepth 20000 in
theorem ggL_law_X7_speed : GoodIn wsL_law wsX7_speed := goodIn_r _ [605, 156, 271, 606, 607, 608, 129, 745, 746, 747, 748, 749, 750, 751, 752, 753, 754, 755, 756, 757, 758, 759, 760, 761, 762, 763, 764, 765, 766, 767, 768, 769, 770, 771, 772, 773, 774, 775, 776, 777, 778, 779, 780, 781, 782, 783, 784, 785, 786, 787, 788] (by decide +kernel) (by decide +kernel)
set_option maxRecDepth 20000 in
theorem gL_law_X7_speed : GoodIn wsL_law (wsV RL 88 RX7 yX7_speed wsX7_speed) := goodIn_app (goodIn_of _ (by decide +kernel)) ggL_law_X7_speed
set_option maxRecDepth 20000 in
theorem ggL_law_X6_cut : GoodIn wsL_law wsX6_cut := goodIn_r _ [612, 42, 23, 39, 41, 37, 38, 27, 31, 613, 471, 472, 22, 473, 88, 89, 614, 615, 616, 26, 617, 101, 618, 619, 620, 30, 621, 108, 110, 733, 734, 735, 736, 737, 738, 739, 740, 741, 742, 743, 744, 798, 799, 800, 801, 802, 803, 804, 805, 806, 807, 808, 809, 810, 811, 812, 813] (by decide +kernel) (by decide +kernel)
set_option maxRecDepth 20000 in
theorem gL_law_X6_cut : GoodIn wsL_law (wsV RL 89 RX6 yX6_cut wsX6_cut) := goodIn_app (goodIn_of _ (by decide +kernel)) ggL_law_X6_cut
set_option maxRecDepth 20000 in
theorem ggL_law_X7_cut : GoodIn wsL_law wsX7_cut := goodIn_r _ [625, 156, 128, 271, 495, 494, 496, 493, 508, 134, 503, 745, 746, 747, 748, 749, 750, 751, 752, 753, 754, 755, 756, 757, 758, 759, 760, 761, 762, 763, 764, 765, 766, 767, 768, 769, 770, 771, 772, 773, 774, 775, 776, 777, 778, 779, 780, 781, 782, 783, 784, 785, 786, 787, 788] (by decide +kernel) (by decide +kernel)
set_option maxRecDepth 20000 in
theorem gL_law_X7_cut : GoodIn wsL_law (wsV RL 92 RX7 yX7_cut wsX7_cut) := goodIn_app (goodIn_of _ (by decide +kernel)) ggL_law_X7_cut
set_option maxRecDepth 20000 in
theorem ggL_law_X6_on : GoodIn wsL_law wsX6_on := goodIn_r _ [629, 42, 36, 23, 39, 630, 631, 632, 2, 633, 31, 35, 634, 635, 636, 30, 637, 108, 110, 442, 443, 444, 445, 638, 639, 640, 641, 109, 642, 643, 644, 645, 462, 463, 464, 34, 465, 348, 349, 350, 351, 79, 733, 734, 735, 736, 737, 738, 739, 740, 741, 742, 743, 744, 798, 799, 800, 801, 802, 803, 811, 812, 813, 814, 815, 816, 817, 818, 819, 820, 821, 822, 823, 824] (by decide +kernel) (by decide +kernel)
set_option maxRecDepth 20000 in
theorem gL_law_X6_on : GoodIn wsL_law (wsV RL 93 RX6 yX6_on wsX6_on) := goodIn_app (goodIn_of _ (by decide +kernel)) ggL_law_X6_on
set_option maxRecDepth 20000 in
theorem ggL_law_X7_on : GoodIn wsL_law wsX7_on := goodIn_r _ [649, 156, 128, 134, 503, 136, 275, 135, 484, 273, 495, 745, 746, 747, 748, 749, 750, 751, 752, 753, 754, 755, 756, 757, 758, 759, 760, 761, 762, 763, 764, 765, 766, 767, 768, 769, 770, 771, 772, 773, 774, 775, 776, 777, 778, 779, 780, 781, 782, 783, 784, 785, 786, 787, 788] (by decide +kernel) (by decide +kernel)
set_option maxRecDepth 20000 in
theorem gL_law_X7_on : GoodIn wsL_law (wsV RL 96 RX7 yX7_on wsX7_on) := goodIn_app (goodIn_of _ (by decide +kernel)) ggL_law_X7_on
set_option maxRecDepth 20000 in
theorem ggL_law_X6_angle : GoodIn wsL_law wsX6_angle := goodIn_r _ [653, 23, 474, 475, 2, 476, 477, 733, 734, 735, 736, 737, 738, 739, 740, 741, 742, 743, 744, 798, 799, 800, 801, 802, 803] (by decide +kernel) (by decide +kernel)
set_option maxRecDepth 20000 in
theorem gL_law_X6_angle : GoodIn wsL_law (wsV RL 97 RX6 yX6_angle wsX6_angle) := goodIn_app (goodIn_of _ (by decide +kernel)) ggL_law_X6_angle
set_option maxRecDepth 20000 in
theorem ggL_law_X7_angle : GoodIn wsL_law wsX7_angle := goodIn_r _ [657, 156, 484, 485, 745, 746, 747, 748, 749, 750, 751, 752, 753, 754, 755, 756, 757, 758, 759, 760, 761, 762, 763, 764, 765, 766, 767, 768, 769, 770, 771, 772, 773, 774, 775, 776, 777, 778, 779, 780, 781, 782, 783, 784, 785, 786, 787, 788] (by decide +kernel) (by decide +kernel)
set_option maxRecDepth 20000 in
theorem gL_law_X7_angle : GoodIn wsL_law (wsV RL 101 RX7 yX7_angle wsX7_angle) := goodIn_app (goodIn_of _ (by decide +kernel)) ggL_law_X7_angle
set_option maxRecDepth 20000 in
theorem ggL_law_X6_left : GoodIn wsL_law wsX6_left := goodIn_r _ [661, 23, 662, 733, 734, 735, 736, 737, 738, 739, 740, 741, 742, 743, 744, 798, 799, 800, 801, 802, 803] (by decide +kernel) (by decide +kernel)
set_option maxRecDepth 20000 in
theorem gL_law_X6_left : GoodIn wsL_law (wsV RL 102 RX6 yX6_left wsX6_left) := goodIn_app (goodIn_of _ (by decide +kernel)) ggL_law_X6_left
set_option maxRecDepth 20000 in
theorem ggL_law_X7_left : GoodIn wsL_law wsX7_left := goodIn_r _ [666, 156, 271, 396, 667, 745, 746, 747, 748, 749, 750, 751, 752, 753, 754, 755, 756, 757, 758, 759, 760, 761, 762, 763, 764, 765, 766, 767, 768, 769, 770, 771, 772, 773, 774, 775, 776, 777, 778, 779, 780, 781, 782, 783, 784, 785, 786, 787, 788] (by decide +kernel) (by decide +kernel)
set_option maxRecDepth 20000 in
theorem gL_law_X7_left : GoodIn wsL_law (wsV RL 106 RX7 yX7_left wsX7_left) := goodIn_app (goodIn_of _ (by decide +kernel)) ggL_law_X7_left
set_option maxRecDepth 20000 in
theorem ggL_law_X6_roll : GoodIn wsL_law wsX6_roll := goodIn_r _ [671, 672, 673, 27, 416, 674, 675, 733, 734, 735, 736, 737, 738, 739, 740, 741, 742, 743, 744, 804, 805, 806, 807, 808, 809, 810] (by decide +kernel) (by decide +kernel)
set_option maxRecDepth 20000 in
theorem gL_law_X6_roll : GoodIn wsL_law (wsV RL 107 RX6 yX6_roll wsX6_roll) := goodIn_app (goodIn_of _ (by decide +kernel)) ggL_law_X6_roll
set_option maxRecDepth 20000 in
theorem ggL_law_X7_roll : GoodIn wsL_law wsX7_roll := goodIn_r _ [679, 156, 680, 681, 509, 483, 682, 683, 745, 746, 747, 748, 749, 750, 751, 752, 753, 754, 755, 756, 757, 758, 759, 760, 761, 762, 763, 764, 765, 766, 767, 768, 769, 770, 771, 772, 773, 774, 775, 776, 777, 778, 779, 780, 781, 782, 783, 784, 785, 786, 787, 788] (by decide +kernel) (by decide +kernel)
set_option maxRecDepth 20000 in
theorem gL_law_X7_roll : GoodIn wsL_law (wsV RL 110 RX7 yX7_roll wsX7_roll) := goodIn_app (goodIn_of _ (by decide +kernel)) ggL_law_X7_roll
set_option maxRecDepth 20000 in
theorem ggL_law_X6_letOff : GoodIn wsL_law wsX6_letOff := goodIn_r _ [687, 688, 689, 601, 690] (by decide +kernel) (by decide +kernel)
set_option maxRecDepth 20000 in
theorem gL_law_X6_letOff : GoodIn wsL_law (wsV RL 111 RX6 yX6_letOff wsX6_letOff) := goodIn_app (goodIn_of _ (by decide +kernel)) ggL_law_X6_letOff
set_option maxRecDepth 20000 in
theorem ggL_law_X7_letOff : GoodIn wsL_law wsX7_letOff := goodIn_r _ [694, 156, 695, 696, 483, 697, 745, 746, 747, 748, 749, 750, 751, 752, 753, 754, 755, 756, 757, 758, 759, 760, 761, 762, 763, 764, 765, 766, 767, 768, 769, 770, 771, 772, 773, 774, 775, 776, 777, 778, 779, 780, 781, 782, 783, 784, 785, 786, 787, 788] (by decide +kernel) (by decide +kernel)
set_option maxRecDepth 20000 in
theorem gL_law_X7_letOff : GoodIn wsL_law (wsV RL 115 RX7 yX7_letOff wsX7_letOff) := goodIn_app (goodIn_of _ (by decide +kernel)) ggL_law_X7_letOff
set_option maxRecDepth 20000 in
theorem ggL_law_X6_state : GoodIn wsL_law wsX6_state := goodIn_r _ [701, 23, 37, 38, 39, 40, 27, 702, 42, 703, 704, 457, 705, 733, 734, 735, 736, 737, 738, 739, 740, 741, 742, 743, 744, 798, 799, 800, 801, 802, 803, 804, 805, 806, 807, 808, 809, 810] (by decide +kernel) (by decide +kernel)
set_option maxRecDepth 20000 in
theorem gL_law_X6_state : GoodIn wsL_law (wsV RL 116 RX6 yX6_state wsX6_state) := goodIn_app (goodIn_of _ (by decide +kernel)) ggL_law_X6_state
set_option maxRecDepth 20000 in
theorem ggL_law_X7_state : GoodIn wsL_law wsX7_state := goodIn_r _ [709, 156, 271, 496, 493, 495, 497, 397, 509, 710, 128, 745, 746, 747, 748, 749, 750, 751, 752, 753, 754, 755, 756, 757, 758, 759, 760, 761, 762, 763, 764, 765, 766, 767, 768, 769, 770, 771, 772, 773, 774, 775, 776, 777, 778, 779, 780, 781, 782, 783, 784, 785, 786, 787, 788] (by decide +kernel) (by decide +kernel)
set_option maxRecDepth 20000 in
theorem gL_law_X7_state : GoodIn wsL_law (wsV RL 120 RX7 yX7_state wsX7_state) := goodIn_app (goodIn_of _ (by decide +kernel)) ggL_law_X7_state
set_option maxRecDepth 20000 in
theorem ggL_law_X6_count : GoodIn wsL_law wsX6_count := goodIn_r _ [714, 36, 27, 23, 715, 733, 734, 735, 736, 737, 738, 739, 740, 741, 742, 743, 744, 804, 805, 806, 807, 808, 809, 810, 798, 799, 800, 801, 802, 803] (by decide +kernel) (by decide +kernel)
set_option maxRecDepth 20000 in
theorem gL_law_X6_count : GoodIn wsL_law (wsV RL 121 RX6 yX6_count wsX6_count) := goodIn_app (goodIn_of _ (by decide +kernel)) ggL_law_X6_count
set_option maxRecDepth 20000 in
theorem ggL_law_X7_count : GoodIn wsL_law wsX7_count := goodIn_r _ [719, 156, 275, 510, 498, 720, 745, 746, 747, 748, 749, 750, 751, 752, 753, 754, 755, 756, 757, 758, 759, 760, 761, 762, 763, 764, 765, 766, 767, 768, 769, 770, 771, 772, 773, 774, 775, 776, 777, 778, 779, 780, 781, 782, 783, 784, 785, 786, 787, 788] (by decide +kernel) (by decide +kernel)
set_option maxRecDepth 20000 in
theorem gL_law_X7_count : GoodIn wsL_law (wsV RL 125 RX7 yX7_count wsX7_count) := goodIn_app (goodIn_of _ (by decide +kernel)) ggL_law_X7_count
set_option maxRecDepth 20000 in
theorem ggL_law_X6_cloth : GoodIn wsL_law wsX6_cloth := goodIn_r _ [724, 27, 725, 726, 727, 26, 728, 101, 97, 98, 99, 543, 544, 545, 546, 100, 455, 456, 457, 458, 733, 734, 735, 736, 737, 738, 739, 740, 741, 742, 743, 744, 804, 805, 806, 807, 808, 809, 810] (by decide +kernel) (by decide +kernel)
set_option maxRecDepth 20000 in
theorem gL_law_X6_cloth : GoodIn wsL_law (wsV RL 126 RX6 yX6_cloth wsX6_cloth) := goodIn_app (goodIn_of _ (by decide +kernel)) ggL_law_X6_cloth
set_option maxRecDepth 20000 in
theorem ggL_law_X7_cloth : GoodIn wsL_law wsX7_cloth := goodIn_r _ [732, 156, 508, 130, 131, 132, 745, 746, 747, 748, 749, 750, 751, 752, 753, 754, 755, 756, 757, 758, 759, 760, 761, 762, 763, 764, 765, 766, 767, 768, 769, 770, 771, 772, 773, 774, 775, 776, 777, 778, 779, 780, 781, 782, 783, 784, 785, 786, 787, 788] (by decide +kernel) (by decide +kernel)
set_option maxRecDepth 20000 in
theorem gL_law_X7_cloth : GoodIn wsL_law (wsV RL 130 RX7 yX7_cloth wsX7_cloth) := goodIn_app (goodIn_of _ (by decide +kernel)) ggL_law_X7_cloth
theorem dL_law_0 : decode cL_law 0 = .ok (.new 8, 3) := by decide +kernel
theorem dL_law_3 : decode cL_law 3 = .ok (.dup, 1) := by decide +kernel
theorem dL_law_4 : decode cL_law 4 = .ok (.invokespecial 20, 3) := by decide +kernel
theorem dL_law_7 : decode cL_law 7 = .ok (.astore_n 1, 1) := by decide +kernel
theorem dL_law_8 : decode cL_law 8 = .ok (.new 21, 3) := by decide +kernel
theorem dL_law_11 : decode cL_law 11 = .ok (.dup, 1) := by decide +kernel
theorem dL_law_12 : decode cL_law 12 = .ok (.invokespecial 23, 3) := by decide +kernel
theorem dL_law_15 : decode cL_law 15 = .ok (.astore_n 2, 1) := by decide +kernel
theorem dL_law_16 : decode cL_law 16 = .ok (.iconst 1, 1) := by decide +kernel
theorem dL_law_17 : decode cL_law 17 = .ok (.newarray .double, 2) := by decide +kernel
theorem dL_law_19 : decode cL_law 19 = .ok (.astore_n 3, 1) := by decide +kernel
theorem dL_law_20 : decode cL_law 20 = .ok (.iconst 0, 1) := by decide +kernel
theorem dL_law_21 : decode cL_law 21 = .ok (.istore 4, 2) := by decide +kernel
theorem dL_law_23 : decode cL_law 23 = .ok (.iload 4, 2) := by decide +kernel
theorem dL_law_25 : decode cL_law 25 = .ok (.aload_n 0, 1) := by decide +kernel
theorem dL_law_26 : decode cL_law 26 = .ok (.arraylength, 1) := by decide +kernel
theorem dL_law_27 : decode cL_law 27 = .ok (.iconst 4, 1) := by decide +kernel
theorem dL_law_28 : decode cL_law 28 = .ok (.isub, 1) := by decide +kernel
theorem dL_law_29 : decode cL_law 29 = .ok (.if_icmp .gt 936, 3) := by decide +kernel
theorem dL_law_32 : decode cL_law 32 = .ok (.aload_n 0, 1) := by decide +kernel
theorem dL_law_33 : decode cL_law 33 = .ok (.iload 4, 2) := by decide +kernel
theorem dL_law_35 : decode cL_law 35 = .ok (.iaload, 1) := by decide +kernel
theorem dL_law_36 : decode cL_law 36 = .ok (.bipush 31, 2) := by decide +kernel
theorem dL_law_38 : decode cL_law 38 = .ok (.iand, 1) := by decide +kernel
theorem dL_law_39 : decode cL_law 39 = .ok (.tableswitch 920 0 20 #[97, 166, 179, 193, 262, 275, 288, 371, 454, 495, 508, 565, 598, 639, 652, 693, 736, 799, 832, 857, 883], 97) := by decide +kernel
theorem dL_law_136 : decode cL_law 136 = .ok (.aload_n 1, 1) := by decide +kernel
theorem dL_law_137 : decode cL_law 137 = .ok (.aload_n 0, 1) := by decide +kernel
theorem dL_law_138 : decode cL_law 138 = .ok (.iload 4, 2) := by decide +kernel
theorem dL_law_140 : decode cL_law 140 = .ok (.iconst 1, 1) := by decide +kernel
theorem dL_law_141 : decode cL_law 141 = .ok (.iadd, 1) := by decide +kernel
theorem dL_law_142 : decode cL_law 142 = .ok (.iaload, 1) := by decide +kernel
theorem dL_law_143 : decode cL_law 143 = .ok (.i2l, 1) := by decide +kernel
theorem dL_law_144 : decode cL_law 144 = .ok (.bipush 32, 2) := by decide +kernel
theorem dL_law_146 : decode cL_law 146 = .ok (.lshl, 1) := by decide +kernel
theorem dL_law_147 : decode cL_law 147 = .ok (.aload_n 0, 1) := by decide +kernel
theorem dL_law_148 : decode cL_law 148 = .ok (.iload 4, 2) := by decide +kernel
theorem dL_law_150 : decode cL_law 150 = .ok (.iconst 2, 1) := by decide +kernel
theorem dL_law_151 : decode cL_law 151 = .ok (.iadd, 1) := by decide +kernel
theorem dL_law_152 : decode cL_law 152 = .ok (.iaload, 1) := by decide +kernel
theorem dL_law_153 : decode cL_law 153 = .ok (.i2l, 1) := by decide +kernel
theorem dL_law_154 : decode cL_law 154 = .ok (.ldc2_w 24, 3) := by decide +kernel
theorem dL_law_157 : decode cL_law 157 = .ok (.land, 1) := by decide +kernel
theorem dL_law_158 : decode cL_law 158 = .ok (.lor, 1) := by decide +kernel
theorem dL_law_159 : decode cL_law 159 = .ok (.aload_n 0, 1) := by decide +kernel
