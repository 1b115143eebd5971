set_option maxRecDepth 20000 in
theorem ggL_law_X4_init : GoodIn wsL_law wsX4_init := goodIn_r _ [9, 10, 11, 12, 13, 14, 15, 16, 17, 18, 19, 20, 21, 22, 23, 24, 25, 26, 27, 28, 29, 30, 31, 32, 33, 34, 35, 36, 37, 38, 39, 40, 41, 42, 43, 44, 45, 46, 47, 48, 49, 50, 51, 52, 53, 54, 55, 56, 57, 58, 59, 60, 61, 62, 63, 64, 65, 66, 67, 68, 69, 70, 71, 72, 73, 74, 75, 76, 77, 78, 79, 80, 81, 82, 83, 84, 785, 786, 787, 788, 789, 790, 791, 792, 793, 794, 764, 765, 766, 767, 768, 795, 796, 797, 798, 799, 800, 801, 802, 803, 804, 805, 806, 807, 808, 809, 810, 811, 812, 813] (by decide +kernel) (by decide +kernel)
set_option maxRecDepth 20000 in
theorem gL_law_X4_init : GoodIn wsL_law (wsX4_init) := ggL_law_X4_init
set_option maxRecDepth 20000 in
theorem ggL_law_X5_init : GoodIn wsL_law wsX5_init := goodIn_r _ [87, 88, 11, 12, 34, 89, 90, 91, 92, 93, 94, 95, 96, 97, 769, 770, 771, 772, 773, 774, 775, 776, 777, 778, 779, 780, 781, 782, 783, 784] (by decide +kernel) (by decide +kernel)
set_option maxRecDepth 20000 in
theorem gL_law_X5_init : GoodIn wsL_law (wsX5_init) := ggL_law_X5_init
set_option maxRecDepth 20000 in
theorem ggL_law_L_show : GoodIn wsL_law wsL_show := goodIn_ca (goodIn_ca (goodIn_r _ [101, 102, 103, 104, 105, 106, 2, 107, 20, 16, 108, 109, 110, 111, 112, 113, 114, 115, 116, 117, 118, 119, 120, 121, 19, 122, 60, 59, 58, 123, 124, 125, 15, 126, 35, 45, 46, 47, 48, 36, 37, 38, 39, 40, 41, 42, 43, 44, 764, 765, 766, 767, 768, 785, 786, 787, 788, 789, 790, 791, 792, 793, 794, 795, 796, 797] (by decide +kernel) (by decide +kernel)) (goodIn_sub (fun _ h => List.mem_append_left _ (List.mem_append_left _ (List.mem_append_right _ h))) (by decide +kernel))) (goodIn_sub (fun _ h => List.mem_append_left _ (List.mem_append_right _ h)) (by decide +kernel))
set_option maxRecDepth 20000 in
theorem gL_law_L_show : GoodIn wsL_law (va_wsS RL 79 yL_show wsL_show) := goodIn_app (goodIn_of _ (by decide +kernel)) ggL_law_L_show
set_option maxRecDepth 20000 in
theorem ggL_law_X5_show : GoodIn wsL_law wsX5_show := goodIn_r _ [130, 131, 132, 133, 5, 134, 135, 136, 137, 138, 139, 140, 141, 142, 143, 144, 145, 146, 147, 148, 149, 92, 90, 150, 151, 152, 153, 769, 770, 771, 772, 773, 774, 775, 776, 777, 778, 779, 780, 781, 782, 783, 784] (by decide +kernel) (by decide +kernel)
set_option maxRecDepth 20000 in
theorem gL_law_X5_show : GoodIn wsL_law (wsV RL 84 RX5 yX5_show wsX5_show) := goodIn_app (goodIn_of _ (by decide +kernel)) ggL_law_X5_show
set_option maxRecDepth 20000 in
theorem ggL_law_X5_thrown : GoodIn wsL_law wsX5_thrown := goodIn_r _ [157, 131, 769, 770, 771, 772, 773, 774, 775, 776, 777, 778, 779, 780, 781, 782, 783, 784] (by decide +kernel) (by decide +kernel)
set_option maxRecDepth 20000 in
theorem gL_law_X5_thrown : GoodIn wsL_law (wsV RL 85 RX5 yX5_thrown wsX5_thrown) := goodIn_app (goodIn_of _ (by decide +kernel)) ggL_law_X5_thrown
set_option maxRecDepth 20000 in
theorem ggL_law_L_level : GoodIn wsL_law wsL_level := goodIn_ca (goodIn_ca (goodIn_r _ [160, 102, 103, 161, 162, 163, 2, 164, 20, 16, 165, 109, 110, 111, 112, 113, 114, 115, 116, 117, 118, 119, 120, 121, 19, 122, 60, 59, 58, 123, 124, 125, 15, 126, 35, 45, 46, 47, 48, 36, 37, 38, 39, 40, 41, 42, 43, 44, 166, 167, 168, 169, 49, 50, 51, 52, 764, 765, 766, 767, 768, 785, 786, 787, 788, 789, 790, 791, 792, 793, 794, 795, 796, 797] (by decide +kernel) (by decide +kernel)) (goodIn_sub (fun _ h => List.mem_append_left _ (List.mem_append_left _ (List.mem_append_right _ h))) (by decide +kernel))) (goodIn_sub (fun _ h => List.mem_append_left _ (List.mem_append_right _ h)) (by decide +kernel))
set_option maxRecDepth 20000 in
theorem gL_law_L_level : GoodIn wsL_law (va_wsS RL 88 yL_level wsL_level) := goodIn_app (goodIn_of _ (by decide +kernel)) ggL_law_L_level
set_option maxRecDepth 20000 in
theorem ggL_law_X5_level : GoodIn wsL_law wsX5_level := goodIn_r _ [173, 131, 132, 133, 5, 134, 135, 136, 137, 138, 139, 140, 141, 174, 175, 176, 145, 146, 147, 148, 149, 92, 90, 177, 178, 179, 180, 150, 151, 152, 153, 769, 770, 771, 772, 773, 774, 775, 776, 777, 778, 779, 780, 781, 782, 783, 784] (by decide +kernel) (by decide +kernel)
set_option maxRecDepth 20000 in
theorem gL_law_X5_level : GoodIn wsL_law (wsV RL 90 RX5 yX5_level wsX5_level) := goodIn_app (goodIn_of _ (by decide +kernel)) ggL_law_X5_level
set_option maxRecDepth 20000 in
theorem ggL_law_L_burn : GoodIn wsL_law wsL_burn := goodIn_ca (goodIn_r _ [183, 102, 184, 185, 186, 2, 187, 20, 16, 188, 189, 109, 110, 111, 112, 113, 190, 191, 192, 119, 120, 121, 19, 122, 60, 59, 58, 123, 124, 125, 15, 126, 35, 45, 46, 47, 48, 36, 37, 38, 39, 40, 41, 42, 43, 44, 193, 194, 195, 764, 765, 766, 767, 768, 785, 786, 787, 788, 789, 790, 791, 792, 793, 794, 795, 796, 797] (by decide +kernel) (by decide +kernel)) (goodIn_sub (fun _ h => List.mem_append_left _ (List.mem_append_left _ (List.mem_append_right _ h))) (by decide +kernel))
set_option maxRecDepth 20000 in
theorem gL_law_L_burn : GoodIn wsL_law (va_wsS RL 91 yL_burn wsL_burn) := goodIn_app (goodIn_of _ (by decide +kernel)) ggL_law_L_burn
set_option maxRecDepth 20000 in
theorem ggL_law_X5_burn : GoodIn wsL_law wsX5_burn := goodIn_r _ [199, 131, 90, 132, 133, 5, 134, 135, 136, 137, 200, 201, 202, 138, 139, 140, 141, 145, 146, 147, 148, 149, 92, 769, 770, 771, 772, 773, 774, 775, 776, 777, 778, 779, 780, 781, 782, 783, 784] (by decide +kernel) (by decide +kernel)
set_option maxRecDepth 20000 in
theorem gL_law_X5_burn : GoodIn wsL_law (wsV RL 94 RX5 yX5_burn wsX5_burn) := goodIn_app (goodIn_of _ (by decide +kernel)) ggL_law_X5_burn
set_option maxRecDepth 20000 in
theorem ggL_law_L_ambient : GoodIn wsL_law wsL_ambient := goodIn_ca (goodIn_r _ [205, 103, 206, 207, 208, 2, 209, 20, 16, 210, 114, 115, 116, 117, 118, 119, 120, 121, 19, 122, 60, 59, 58, 123, 124, 125, 15, 126, 35, 45, 46, 47, 48, 36, 37, 38, 39, 40, 41, 42, 43, 44, 764, 765, 766, 767, 768, 785, 786, 787, 788, 789, 790, 791, 792, 793, 794, 795, 796, 797] (by decide +kernel) (by decide +kernel)) (goodIn_sub (fun _ h => List.mem_append_left _ (List.mem_append_right _ h)) (by decide +kernel))
set_option maxRecDepth 20000 in
theorem gL_law_L_ambient : GoodIn wsL_law (va_wsS RL 95 yL_ambient wsL_ambient) := goodIn_app (goodIn_of _ (by decide +kernel)) ggL_law_L_ambient
set_option maxRecDepth 20000 in
theorem ggL_law_X5_ambient : GoodIn wsL_law wsX5_ambient := goodIn_r _ [214, 131, 135, 136, 5, 137, 138, 139, 140, 141, 145, 146, 147, 148, 149, 92, 90, 150, 151, 152, 153, 769, 770, 771, 772, 773, 774, 775, 776, 777, 778, 779, 780, 781, 782, 783, 784] (by decide +kernel) (by decide +kernel)
set_option maxRecDepth 20000 in
theorem gL_law_X5_ambient : GoodIn wsL_law (wsV RL 98 RX5 yX5_ambient wsX5_ambient) := goodIn_app (goodIn_of _ (by decide +kernel)) ggL_law_X5_ambient
set_option maxRecDepth 20000 in
theorem ggL_law_L_set : GoodIn wsL_law wsL_set := goodIn_ca (goodIn_ca (goodIn_r _ [217, 102, 103, 218, 219, 220, 2, 221, 222, 223, 20, 16, 224, 225, 226, 227, 112, 113, 114, 115, 116, 117, 118, 119, 120, 121, 19, 122, 60, 59, 58, 123, 124, 125, 15, 126, 35, 45, 46, 47, 48, 36, 37, 38, 39, 40, 41, 42, 43, 44, 764, 765, 766, 767, 768, 785, 786, 787, 788, 789, 790, 791, 792, 793, 794, 795, 796, 797] (by decide +kernel) (by decide +kernel)) (goodIn_sub (fun _ h => List.mem_append_left _ (List.mem_append_left _ (List.mem_append_right _ h))) (by decide +kernel))) (goodIn_sub (fun _ h => List.mem_append_left _ (List.mem_append_right _ h)) (by decide +kernel))
set_option maxRecDepth 20000 in
theorem gL_law_L_set : GoodIn wsL_law (va_wsS RL 99 yL_set wsL_set) := goodIn_app (goodIn_of _ (by decide +kernel)) ggL_law_L_set
set_option maxRecDepth 20000 in
theorem ggL_law_X5_set : GoodIn wsL_law wsX5_set := goodIn_r _ [231, 131, 135, 136, 5, 137, 138, 139, 140, 141, 232, 233, 234, 145, 146, 147, 148, 149, 92, 90, 150, 151, 152, 153, 769, 770, 771, 772, 773, 774, 775, 776, 777, 778, 779, 780, 781, 782, 783, 784] (by decide +kernel) (by decide +kernel)
set_option maxRecDepth 20000 in
theorem gL_law_X5_set : GoodIn wsL_law (wsV RL 101 RX5 yX5_set wsX5_set) := goodIn_app (goodIn_of _ (by decide +kernel)) ggL_law_X5_set
set_option maxRecDepth 20000 in
theorem ggL_law_L_number : GoodIn wsL_law wsL_number := goodIn_ca (goodIn_ca (goodIn_r _ [237, 102, 103, 238, 239, 240, 2, 241, 20, 16, 109, 110, 111, 112, 113, 242, 243, 244, 245, 246, 247, 248, 114, 115, 116, 117, 118, 119, 120, 121, 19, 122, 60, 59, 58, 123, 124, 125, 15, 126, 35, 45, 46, 47, 48, 36, 37, 38, 39, 40, 41, 42, 43, 44, 249, 250, 251, 252, 253, 764, 765, 766, 767, 768, 795, 796, 797, 785, 786, 787, 788, 789, 790, 791, 792, 793, 794] (by decide +kernel) (by decide +kernel)) (goodIn_sub (fun _ h => List.mem_append_left _ (List.mem_append_left _ (List.mem_append_right _ h))) (by decide +kernel))) (goodIn_sub (fun _ h => List.mem_append_left _ (List.mem_append_right _ h)) (by decide +kernel))
set_option maxRecDepth 20000 in
theorem gL_law_L_number : GoodIn wsL_law (va_wsS RL 102 yL_number wsL_number) := goodIn_app (goodIn_of _ (by decide +kernel)) ggL_law_L_number
set_option maxRecDepth 20000 in
theorem ggL_law_X5_number : GoodIn wsL_law wsX5_number := goodIn_r _ [257, 131, 90, 132, 133, 5, 134, 135, 136, 137, 138, 139, 140, 141, 258, 259, 260, 145, 146, 147, 148, 149, 92, 769, 770, 771, 772, 773, 774, 775, 776, 777, 778, 779, 780, 781, 782, 783, 784] (by decide +kernel) (by decide +kernel)
set_option maxRecDepth 20000 in
theorem gL_law_X5_number : GoodIn wsL_law (wsV RL 105 RX5 yX5_number wsX5_number) := goodIn_app (goodIn_of _ (by decide +kernel)) ggL_law_X5_number
set_option maxRecDepth 20000 in
theorem ggL_law_L_run : GoodIn wsL_law wsL_run := goodIn_ca (goodIn_ca (goodIn_r _ [263, 103, 264, 265, 266, 267, 2, 268, 269, 270, 16, 271, 272, 20, 114, 115, 116, 117, 118, 119, 120, 121, 19, 122, 60, 59, 58, 123, 124, 125, 15, 126, 35, 45, 46, 47, 48, 36, 37, 38, 39, 40, 41, 42, 43, 44, 273, 274, 275, 276, 277, 278, 279, 280, 281, 282, 283, 284, 285, 286, 287, 288, 194, 195, 764, 765, 766, 767, 768, 785, 786, 787, 788, 789, 790, 791, 792, 793, 794, 795, 796, 797] (by decide +kernel) (by decide +kernel)) (goodIn_sub (fun _ h => List.mem_append_right _ h) (by decide +kernel))) (goodIn_sub (fun _ h => List.mem_append_left _ (List.mem_append_right _ h)) (by decide +kernel))
set_option maxRecDepth 20000 in
theorem gL_law_L_run : GoodIn wsL_law (va_wsS RL 106 yL_run wsL_run) := goodIn_app (goodIn_of _ (by decide +kernel)) ggL_law_L_run
set_option maxRecDepth 20000 in
theorem ggL_law_X5_run : GoodIn wsL_law wsX5_run := goodIn_r _ [292, 131, 90, 293, 135, 136, 5, 137, 138, 139, 140, 141, 145, 146, 147, 148, 149, 92, 294, 295, 296, 297, 298, 299, 300, 301, 302, 303, 304, 305, 306, 307, 308, 309, 310, 89, 769, 770, 771, 772, 773, 774, 775, 776, 777, 778, 779, 780, 781, 782, 783, 784] (by decide +kernel) (by decide +kernel)
set_option maxRecDepth 20000 in
theorem gL_law_X5_run : GoodIn wsL_law (wsV RL 108 RX5 yX5_run wsX5_run) := goodIn_app (goodIn_of _ (by decide +kernel)) ggL_law_X5_run
set_option maxRecDepth 20000 in
theorem ggL_law_L_append : GoodIn wsL_law wsL_append := goodIn_ca (goodIn_ca (goodIn_r _ [313, 103, 264, 314, 315, 316, 2, 317, 269, 270, 24, 318, 114, 115, 116, 117, 118, 319, 320, 321, 23, 322, 67, 66, 764, 765, 766, 767, 768, 798, 799, 800, 801, 802, 803] (by decide +kernel) (by decide +kernel)) (goodIn_sub (fun _ h => List.mem_append_right _ h) (by decide +kernel))) (goodIn_sub (fun _ h => List.mem_append_left _ (List.mem_append_right _ h)) (by decide +kernel))
set_option maxRecDepth 20000 in
theorem gL_law_L_append : GoodIn wsL_law (va_wsS RL 109 yL_append wsL_append) := goodIn_app (goodIn_of _ (by decide +kernel)) ggL_law_L_append
set_option maxRecDepth 20000 in
theorem ggL_law_X5_append : GoodIn wsL_law wsX5_append := goodIn_r _ [326, 131, 327, 93, 135, 136, 5, 137, 138, 139, 140, 141, 769, 770, 771, 772, 773, 774, 775, 776, 777, 778, 779, 780, 781, 782, 783, 784] (by decide +kernel) (by decide +kernel)
set_option maxRecDepth 20000 in
theorem gL_law_X5_append : GoodIn wsL_law (wsV RL 111 RX5 yX5_append wsX5_append) := goodIn_app (goodIn_of _ (by decide +kernel)) ggL_law_X5_append
set_option maxRecDepth 20000 in
theorem ggL_law_X4_clearBuffer : GoodIn wsL_law wsX4_clearBuffer := goodIn_r _ [331, 24, 318, 764, 765, 766, 767, 768, 798, 799, 800, 801, 802, 803] (by decide +kernel) (by decide +kernel)
set_option maxRecDepth 20000 in
theorem gL_law_X4_clearBuffer : GoodIn wsL_law (wsV RL 112 RX4 yX4_clearBuffer wsX4_clearBuffer) := goodIn_app (goodIn_of _ (by decide +kernel)) ggL_law_X4_clearBuffer
set_option maxRecDepth 20000 in
theorem ggL_law_X5_clearBuffer : GoodIn wsL_law wsX5_clearBuffer := goodIn_r _ [335, 131, 327, 769, 770, 771, 772, 773, 774, 775, 776, 777, 778, 779, 780, 781, 782, 783, 784] (by decide +kernel) (by decide +kernel)
set_option maxRecDepth 20000 in
theorem gL_law_X5_clearBuffer : GoodIn wsL_law (wsV RL 115 RX5 yX5_clearBuffer wsX5_clearBuffer) := goodIn_app (goodIn_of _ (by decide +kernel)) ggL_law_X5_clearBuffer
set_option maxRecDepth 20000 in
theorem ggL_law_X4_firstError : GoodIn wsL_law wsX4_firstError := goodIn_r _ [339, 24, 340, 341, 342, 23, 343, 70, 71, 67, 66, 344, 345, 346, 347, 348, 349, 350, 351, 352, 353, 354, 355, 69, 356, 357, 358, 359, 68, 360, 361, 362, 764, 765, 766, 767, 768, 798, 799, 800, 801, 802, 803] (by decide +kernel) (by decide +kernel)
set_option maxRecDepth 20000 in
theorem gL_law_X4_firstError : GoodIn wsL_law (wsV RL 116 RX4 yX4_firstError wsX4_firstError) := goodIn_app (goodIn_of _ (by decide +kernel)) ggL_law_X4_firstError
set_option maxRecDepth 20000 in
theorem ggL_law_X5_firstError : GoodIn wsL_law wsX5_firstError := goodIn_r _ [366, 131, 367, 368, 327, 369, 370, 371, 5, 372, 373, 374, 375, 376, 377, 94, 93, 378, 379, 380, 381, 135, 136, 137, 382, 383, 384, 385, 769, 770, 771, 772, 773, 774, 775, 776, 777, 778, 779, 780, 781, 782, 783, 784] (by decide +kernel) (by decide +kernel)
set_option maxRecDepth 20000 in
theorem gL_law_X5_firstError : GoodIn wsL_law (wsV RL 119 RX5 yX5_firstError wsX5_firstError) := goodIn_app (goodIn_of _ (by decide +kernel)) ggL_law_X5_firstError
set_option maxRecDepth 20000 in
theorem ggL_law_L_read : GoodIn wsL_law wsL_read := goodIn_ca (goodIn_r _ [388, 103, 389, 390, 391, 2, 392, 117, 118, 24, 318, 20, 16, 393, 108, 394, 395, 165, 340, 341, 342, 23, 343, 70, 71, 67, 66, 344, 345, 346, 347, 348, 349, 350, 351, 352, 353, 354, 355, 69, 356, 357, 358, 359, 68, 360, 361, 362, 396, 397, 398, 399, 119, 120, 121, 19, 122, 60, 59, 58, 123, 124, 125, 15, 126, 35, 45, 46, 47, 48, 36, 37, 38, 39, 40, 41, 42, 43, 44, 166, 167, 168, 169, 49, 50, 51, 52, 764, 765, 766, 767, 768, 798, 799, 800, 801, 802, 803, 785, 786, 787, 788, 789, 790, 791, 792, 793, 794, 795, 796, 797] (by decide +kernel) (by decide +kernel)) (goodIn_sub (fun _ h => List.mem_append_left _ (List.mem_append_right _ h)) (by decide +kernel))
set_option maxRecDepth 20000 in
theorem gL_law_L_read : GoodIn wsL_law (va_wsS RL 120 yL_read wsL_read) := goodIn_app (goodIn_of _ (by decide +kernel)) ggL_law_L_read
set_option maxRecDepth 20000 in
theorem ggL_law_X5_read : GoodIn wsL_law wsX5_read := goodIn_r _ [403, 131, 327, 373, 90, 94, 369, 370, 371, 5, 372, 368, 367, 374, 375, 376, 377, 93, 378, 379, 380, 381, 135, 136, 137, 382, 383, 384, 385, 138, 139, 140, 141, 145, 146, 147, 148, 149, 92, 177, 178, 179, 180, 769, 770, 771, 772, 773, 774, 775, 776, 777, 778, 779, 780, 781, 782, 783, 784] (by decide +kernel) (by decide +kernel)
set_option maxRecDepth 20000 in
theorem gL_law_X5_read : GoodIn wsL_law (wsV RL 123 RX5 yX5_read wsX5_read) := goodIn_app (goodIn_of _ (by decide +kernel)) ggL_law_X5_read
set_option maxRecDepth 20000 in
theorem ggL_law_L_undo : GoodIn wsL_law wsL_undo := goodIn_ca (goodIn_r _ [406, 264, 407, 408, 409, 2, 410, 269, 270, 20, 411, 16, 412, 413, 414, 19, 415, 60, 58, 59, 123, 124, 125, 15, 126, 35, 45, 46, 47, 48, 36, 37, 38, 39, 40, 41, 42, 43, 44, 764, 765, 766, 767, 768, 795, 796, 797, 785, 786, 787, 788, 789, 790, 791, 792, 793, 794] (by decide +kernel) (by decide +kernel)) (goodIn_sub (fun _ h => List.mem_append_right _ h) (by decide +kernel))
set_option maxRecDepth 20000 in
theorem gL_law_L_undo : GoodIn wsL_law (va_wsS RL 124 yL_undo wsL_undo) := goodIn_app (goodIn_of _ (by decide +kernel)) ggL_law_L_undo
set_option maxRecDepth 20000 in
theorem ggL_law_X5_undo : GoodIn wsL_law wsX5_undo := goodIn_r _ [419, 131, 149, 90, 92, 138, 139, 140, 5, 141, 769, 770, 771, 772, 773, 774, 775, 776, 777, 778, 779, 780, 781, 782, 783, 784] (by decide +kernel) (by decide +kernel)
set_option maxRecDepth 20000 in
theorem gL_law_X5_undo : GoodIn wsL_law (wsV RL 126 RX5 yX5_undo wsX5_undo) := goodIn_app (goodIn_of _ (by decide +kernel)) ggL_law_X5_undo
set_option maxRecDepth 20000 in
theorem ggL_law_L_digit : GoodIn wsL_law wsL_digit := goodIn_ca (goodIn_ca (goodIn_r _ [422, 102, 103, 423, 424, 425, 2, 426, 28, 16, 109, 110, 111, 112, 113, 114, 115, 116, 117, 118, 427, 428, 429, 27, 430, 431, 79, 432, 46, 47, 48, 433, 80, 434, 435, 436, 437, 438, 82, 83, 439, 84, 77, 78, 81, 440, 75, 76, 441, 50, 51, 52, 277, 278, 279, 280, 442, 443, 444, 445, 446, 447, 448, 449, 450, 451, 452, 453, 108, 165, 188, 454, 455, 456, 457, 286, 287, 15, 288, 35, 37, 458, 459, 460, 461, 462, 463, 464, 465, 466, 467, 468, 469, 470, 471, 472, 473, 474, 475, 476, 477, 478, 479, 285, 480, 481, 482, 483, 484, 485, 486, 764, 765, 766, 767, 768, 785, 786, 787, 788, 789, 790, 791, 792, 793, 794, 804, 805, 806, 807, 808, 809, 810, 811, 812, 813] (by decide +kernel) (by decide +kernel)) (goodIn_sub (fun _ h => List.mem_append_left _ (List.mem_append_left _ (List.mem_append_right _ h))) (by decide +kernel))) (goodIn_sub (fun _ h => List.mem_append_left _ (List.mem_append_right _ h)) (by decide +kernel))
set_option maxRecDepth 20000 in
theorem gL_law_L_digit : GoodIn wsL_law (va_wsS RL 127 yL_digit wsL_digit) := goodIn_app (goodIn_of _ (by decide +kernel)) ggL_law_L_digit
set_option maxRecDepth 20000 in
theorem ggL_law_X5_digit : GoodIn wsL_law wsX5_digit := goodIn_r _ [490, 131, 132, 133, 5, 134, 135, 136, 137, 138, 139, 140, 141, 491, 492, 493, 494, 90, 307, 308, 309, 310, 89, 495, 496, 497, 498, 499, 500, 501, 502, 503, 97, 95, 96, 298, 299, 300, 301, 302, 303, 304, 305, 306, 504, 505, 506, 507, 508, 509, 510, 511, 512, 513, 514, 515, 516, 517, 518, 519, 520, 521, 522, 523, 769, 770, 771, 772, 773, 774, 775, 776, 777, 778, 779, 780, 781, 782, 783, 784] (by decide +kernel) (by decide +kernel)
set_option maxRecDepth 20000 in
theorem gL_law_X5_digit : GoodIn wsL_law (wsV RL 129 RX5 yX5_digit wsX5_digit) := goodIn_app (goodIn_of _ (by decide +kernel)) ggL_law_X5_digit
set_option maxRecDepth 20000 in
theorem ggL_law_L_wear : GoodIn wsL_law wsL_wear := goodIn_ca (goodIn_r _ [526, 102, 527, 528, 529, 2, 530, 16, 189, 109, 110, 111, 112, 113, 190, 191, 192, 193, 194, 195, 764, 765, 766, 767, 768, 785, 786, 787, 788, 789, 790, 791, 792, 793, 794] (by decide +kernel) (by decide +kernel)) (goodIn_sub (fun _ h => List.mem_append_left _ (List.mem_append_left _ (List.mem_append_right _ h))) (by decide +kernel))
set_option maxRecDepth 20000 in
theorem gL_law_L_wear : GoodIn wsL_law (va_wsS RL 130 yL_wear wsL_wear) := goodIn_app (goodIn_of _ (by decide +kernel)) ggL_law_L_wear
set_option maxRecDepth 20000 in
theorem ggL_law_X5_wear : GoodIn wsL_law wsX5_wear := goodIn_r _ [534, 131, 90, 132, 133, 5, 134, 135, 136, 137, 200, 201, 202, 138, 139, 140, 141, 769, 770, 771, 772, 773, 774, 775, 776, 777, 778, 779, 780, 781, 782, 783, 784] (by decide +kernel) (by decide +kernel)
set_option maxRecDepth 20000 in
theorem gL_law_X5_wear : GoodIn wsL_law (wsV RL 132 RX5 yX5_wear wsX5_wear) := goodIn_app (goodIn_of _ (by decide +kernel)) ggL_law_X5_wear
set_option maxRecDepth 20000 in
theorem ggL_law_L_slot : GoodIn wsL_law wsL_slot := goodIn_ca (goodIn_r _ [537, 103, 538, 539, 540, 2, 541, 16, 224, 28, 542, 543, 114, 115, 116, 117, 118, 427, 428, 429, 27, 430, 431, 79, 432, 46, 47, 48, 433, 80, 434, 435, 436, 437, 438, 82, 83, 439, 84, 77, 78, 81, 440, 75, 76, 441, 50, 51, 52, 277, 278, 279, 280, 442, 443, 444, 445, 446, 447, 448, 449, 764, 765, 766, 767, 768, 785, 786, 787, 788, 789, 790, 791, 792, 793, 794, 804, 805, 806, 807, 808, 809, 810, 811, 812, 813] (by decide +kernel) (by decide +kernel)) (goodIn_sub (fun _ h => List.mem_append_left _ (List.mem_append_right _ h)) (by decide +kernel))
set_option maxRecDepth 20000 in
theorem gL_law_L_slot : GoodIn wsL_law (va_wsS RL 133 yL_slot wsL_slot) := goodIn_app (goodIn_of _ (by decide +kernel)) ggL_law_L_slot
set_option maxRecDepth 20000 in
theorem ggL_law_X5_slot : GoodIn wsL_law wsX5_slot := goodIn_r _ [547, 131, 90, 96, 95, 135, 136, 5, 137, 138, 139, 140, 141, 499, 500, 501, 502, 503, 97, 298, 299, 300, 301, 302, 303, 304, 305, 306, 769, 770, 771, 772, 773, 774, 775, 776, 777, 778, 779, 780, 781, 782, 783, 784] (by decide +kernel) (by decide +kernel)
set_option maxRecDepth 20000 in
theorem gL_law_X5_slot : GoodIn wsL_law (wsV RL 136 RX5 yX5_slot wsX5_slot) := goodIn_app (goodIn_of _ (by decide +kernel)) ggL_law_X5_slot
set_option maxRecDepth 20000 in
theorem ggL_law_L_count : GoodIn wsL_law wsL_count := goodIn_ca (goodIn_r _ [550, 103, 551, 552, 553, 2, 554, 28, 16, 114, 115, 116, 117, 118, 427, 428, 429, 27, 430, 431, 79, 432, 46, 47, 48, 433, 80, 434, 435, 436, 437, 438, 82, 83, 439, 84, 77, 78, 81, 440, 75, 76, 441, 50, 51, 52, 277, 278, 279, 280, 442, 443, 444, 445, 446, 447, 448, 449, 555, 556, 557, 558, 271, 210, 559, 20, 411, 560, 561, 562, 15, 563, 36, 564, 565, 566, 567, 568, 569, 570, 571, 572, 573, 574, 575, 471, 463, 464, 465, 576, 577, 578, 579, 580, 467, 468, 469, 470, 459, 460, 461, 581, 582, 583, 584, 472, 473, 474, 475, 466, 476, 477, 478, 479, 37, 285, 286, 287, 288, 35, 480, 481, 482, 483, 484, 485, 486, 585, 586, 587, 588, 589, 764, 765, 766, 767, 768, 785, 786, 787, 788, 789, 790, 791, 792, 793, 794, 804, 805, 806, 807, 808, 809, 810, 811, 812, 813, 795, 796, 797] (by decide +kernel) (by decide +kernel)) (goodIn_sub (fun _ h => List.mem_append_left _ (List.mem_append_right _ h)) (by decide +kernel))
set_option maxRecDepth 20000 in
theorem gL_law_L_count : GoodIn wsL_law (va_wsS RL 137 yL_count wsL_count) := goodIn_app (goodIn_of _ (by decide +kernel)) ggL_law_L_count
set_option maxRecDepth 20000 in
theorem ggL_law_X5_count : GoodIn wsL_law wsX5_count := goodIn_r _ [593, 131, 135, 136, 5, 137, 594, 595, 596, 597, 90, 149, 499, 500, 501, 502, 503, 97, 95, 96, 298, 299, 300, 301, 302, 303, 304, 305, 306, 598, 599, 600, 601, 602, 603, 604, 605, 512, 513, 514, 515, 508, 509, 510, 511, 516, 517, 518, 519, 504, 505, 506, 507, 520, 521, 522, 523, 495, 496, 497, 498, 307, 308, 309, 310, 89, 606, 607, 608, 609, 610, 611, 612, 138, 139, 140, 141, 769, 770, 771, 772, 773, 774, 775, 776, 777, 778, 779, 780, 781, 782, 783, 784] (by decide +kernel) (by decide +kernel)
set_option maxRecDepth 20000 in
theorem gL_law_X5_count : GoodIn wsL_law (wsV RL 139 RX5 yX5_count wsX5_count) := goodIn_app (goodIn_of _ (by decide +kernel)) ggL_law_X5_count
set_option maxRecDepth 20000 in
theorem ggL_law_L_setting : GoodIn wsL_law wsL_setting := goodIn_ca (goodIn_r _ [615, 102, 616, 617, 618, 2, 619, 16, 224, 225, 226, 227, 112, 113, 764, 765, 766, 767, 768, 785, 786, 787, 788, 789, 790, 791, 792, 793, 794] (by decide +kernel) (by decide +kernel)) (goodIn_sub (fun _ h => List.mem_append_left _ (List.mem_append_left _ (List.mem_append_right _ h))) (by decide +kernel))
set_option maxRecDepth 20000 in
theorem gL_law_L_setting : GoodIn wsL_law (va_wsS RL 140 yL_setting wsL_setting) := goodIn_app (goodIn_of _ (by decide +kernel)) ggL_law_L_setting
set_option maxRecDepth 20000 in
theorem ggL_law_X5_setting : GoodIn wsL_law wsX5_setting := goodIn_r _ [623, 131, 90, 135, 136, 5, 137, 138, 139, 140, 141, 769, 770, 771, 772, 773, 774, 775, 776, 777, 778, 779, 780, 781, 782, 783, 784] (by decide +kernel) (by decide +kernel)
set_option maxRecDepth 20000 in
theorem gL_law_X5_setting : GoodIn wsL_law (wsV RL 142 RX5 yX5_setting wsX5_setting) := goodIn_app (goodIn_of _ (by decide +kernel)) ggL_law_X5_setting
set_option maxRecDepth 20000 in
theorem ggL_law_L_ifLevel : GoodIn wsL_law wsL_ifLevel := goodIn_ca (goodIn_ca (goodIn_r _ [626, 102, 103, 627, 628, 629, 2, 630, 29, 16, 109, 110, 111, 112, 113, 114, 115, 116, 117, 118, 631, 632, 633, 27, 634, 431, 79, 432, 46, 47, 48, 80, 441, 50, 51, 52, 434, 435, 436, 437, 438, 82, 83, 439, 84, 77, 78, 81, 440, 75, 76, 277, 278, 279, 280, 442, 443, 444, 445, 446, 447, 448, 449, 635, 636, 637, 638, 458, 459, 460, 461, 576, 577, 578, 579, 580, 467, 468, 469, 470, 471, 463, 464, 465, 572, 573, 574, 575, 764, 765, 766, 767, 768, 785, 786, 787, 788, 789, 790, 791, 792, 793, 794, 804, 805, 806, 807, 808, 809, 810, 811, 812, 813] (by decide +kernel) (by decide +kernel)) (goodIn_sub (fun _ h => List.mem_append_left _ (List.mem_append_left _ (List.mem_append_right _ h))) (by decide +kernel))) (goodIn_sub (fun _ h => List.mem_append_left _ (List.mem_append_right _ h)) (by decide +kernel))
set_option maxRecDepth 20000 in
theorem gL_law_L_ifLevel : GoodIn wsL_law (va_wsS RL 143 yL_ifLevel wsL_ifLevel) := goodIn_app (goodIn_of _ (by decide +kernel)) ggL_law_L_ifLevel
set_option maxRecDepth 20000 in
theorem ggL_law_X5_ifLevel : GoodIn wsL_law wsX5_ifLevel := goodIn_r _ [642, 131, 132, 133, 5, 134, 135, 136, 137, 138, 139, 140, 141, 174, 175, 176, 643, 644, 645, 646, 91, 647, 648, 649, 650, 90, 499, 500, 501, 502, 503, 97, 95, 96, 298, 299, 300, 301, 302, 303, 304, 305, 306, 504, 505, 506, 507, 602, 603, 604, 605, 512, 513, 514, 515, 508, 509, 510, 511, 516, 517, 518, 519, 520, 521, 522, 523, 495, 496, 497, 498, 307, 308, 309, 310, 89, 769, 770, 771, 772, 773, 774, 775, 776, 777, 778, 779, 780, 781, 782, 783, 784] (by decide +kernel) (by decide +kernel)
set_option maxRecDepth 20000 in
theorem gL_law_X5_ifLevel : GoodIn wsL_law (wsV RL 145 RX5 yX5_ifLevel wsX5_ifLevel) := goodIn_app (goodIn_of _ (by decide +kernel)) ggL_law_X5_ifLevel
set_option maxRecDepth 20000 in
theorem ggL_law_L_leastLevel : GoodIn wsL_law wsL_leastLevel := goodIn_ca (goodIn_r _ [653, 102, 654, 655, 656, 2, 657, 109, 110, 111, 112, 113, 658, 659, 660, 661, 29, 16, 631, 632, 633, 27, 634, 431, 79, 432, 46, 47, 48, 80, 441, 50, 51, 52, 434, 435, 436, 437, 438, 82, 83, 439, 84, 77, 78, 81, 440, 75, 76, 277, 278, 279, 280, 442, 443, 444, 445, 446, 447, 448, 449, 466, 467, 468, 469, 470, 459, 460, 461, 471, 463, 464, 465, 764, 765, 766, 767, 768, 785, 786, 787, 788, 789, 790, 791, 792, 793, 794, 804, 805, 806, 807, 808, 809, 810, 811, 812, 813] (by decide +kernel) (by decide +kernel)) (goodIn_sub (fun _ h => List.mem_append_left _ (List.mem_append_left _ (List.mem_append_right _ h))) (by decide +kernel))
set_option maxRecDepth 20000 in
theorem gL_law_L_leastLevel : GoodIn wsL_law (va_wsS RL 146 yL_leastLevel wsL_leastLevel) := goodIn_app (goodIn_of _ (by decide +kernel)) ggL_law_L_leastLevel
set_option maxRecDepth 20000 in
theorem ggL_law_X5_leastLevel : GoodIn wsL_law wsX5_leastLevel := goodIn_r _ [665, 131, 132, 133, 5, 134, 135, 136, 137, 666, 667, 668, 669, 91, 647, 648, 649, 650, 90, 499, 500, 501, 502, 503, 97, 95, 96, 298, 299, 300, 301, 302, 303, 304, 305, 306, 516, 517, 518, 519, 504, 505, 506, 507, 512, 513, 514, 515, 508, 509, 510, 511, 138, 139, 140, 141, 769, 770, 771, 772, 773, 774, 775, 776, 777, 778, 779, 780, 781, 782, 783, 784] (by decide +kernel) (by decide +kernel)
set_option maxRecDepth 20000 in
theorem gL_law_X5_leastLevel : GoodIn wsL_law (wsV RL 148 RX5 yX5_leastLevel wsX5_leastLevel) := goodIn_app (goodIn_of _ (by decide +kernel)) ggL_law_X5_leastLevel
set_option maxRecDepth 20000 in
theorem ggL_law_L_alikeSigns : GoodIn wsL_law wsL_alikeSigns := goodIn_ca (goodIn_r _ [672, 102, 673, 674, 675, 2, 676, 109, 110, 111, 112, 113, 677, 678, 679, 680, 16, 188, 681, 764, 765, 766, 767, 768, 785, 786, 787, 788, 789, 790, 791, 792, 793, 794] (by decide +kernel) (by decide +kernel)) (goodIn_sub (fun _ h => List.mem_append_left _ (List.mem_append_left _ (List.mem_append_right _ h))) (by decide +kernel))
set_option maxRecDepth 20000 in
theorem gL_law_L_alikeSigns : GoodIn wsL_law (va_wsS RL 149 yL_alikeSigns wsL_alikeSigns) := goodIn_app (goodIn_of _ (by decide +kernel)) ggL_law_L_alikeSigns
set_option maxRecDepth 20000 in
theorem ggL_law_X5_alikeSigns : GoodIn wsL_law wsX5_alikeSigns := goodIn_r _ [685, 131, 132, 133, 5, 134, 135, 136, 137, 686, 687, 688, 689, 307, 308, 309, 310, 89, 90, 138, 139, 140, 141, 769, 770, 771, 772, 773, 774, 775, 776, 777, 778, 779, 780, 781, 782, 783, 784] (by decide +kernel) (by decide +kernel)
set_option maxRecDepth 20000 in
theorem gL_law_X5_alikeSigns : GoodIn wsL_law (wsV RL 151 RX5 yX5_alikeSigns wsX5_alikeSigns) := goodIn_app (goodIn_of _ (by decide +kernel)) ggL_law_X5_alikeSigns
set_option maxRecDepth 20000 in
theorem ggL_law_X4_numberShown : GoodIn wsL_law wsX4_numberShown := goodIn_r _ [693, 28, 16, 427, 428, 429, 27, 430, 431, 79, 432, 46, 47, 48, 433, 80, 434, 435, 436, 437, 438, 82, 83, 439, 84, 77, 78, 81, 440, 75, 76, 441, 50, 51, 52, 277, 2, 278, 279, 280, 442, 443, 444, 445, 446, 447, 448, 449, 694, 695, 696, 697, 108, 472, 473, 474, 475, 466, 467, 468, 469, 470, 459, 460, 461, 471, 463, 464, 465, 476, 477, 478, 15, 479, 37, 285, 286, 287, 288, 35, 480, 481, 482, 483, 484, 485, 486, 764, 765, 766, 767, 768, 785, 786, 787, 788, 789, 790, 791, 792, 793, 794, 804, 805, 806, 807, 808, 809, 810, 811, 812, 813] (by decide +kernel) (by decide +kernel)
set_option maxRecDepth 20000 in
theorem gL_law_X4_numberShown : GoodIn wsL_law (wsV RL 152 RX4 yX4_numberShown wsX4_numberShown) := goodIn_app (goodIn_of _ (by decide +kernel)) ggL_law_X4_numberShown
set_option maxRecDepth 20000 in
theorem ggL_law_X5_numberShown : GoodIn wsL_law wsX5_numberShown := goodIn_r _ [701, 131, 702, 703, 704, 5, 705, 90, 499, 500, 501, 502, 503, 97, 95, 96, 298, 299, 300, 301, 302, 303, 304, 305, 306, 520, 521, 522, 523, 495, 496, 497, 498, 307, 308, 309, 310, 89, 516, 517, 518, 519, 504, 505, 506, 507, 512, 513, 514, 515, 508, 509, 510, 511, 769, 770, 771, 772, 773, 774, 775, 776, 777, 778, 779, 780, 781, 782, 783, 784] (by decide +kernel) (by decide +kernel)
set_option maxRecDepth 20000 in
theorem gL_law_X5_numberShown : GoodIn wsL_law (wsV RL 155 RX5 yX5_numberShown wsX5_numberShown) := goodIn_app (goodIn_of _ (by decide +kernel)) ggL_law_X5_numberShown
set_option maxRecDepth 20000 in
theorem ggL_law_X4_evenness : GoodIn wsL_law wsX4_evenness := goodIn_r _ [709, 28, 16, 427, 428, 429, 27, 430, 431, 79, 432, 46, 47, 48, 433, 80, 434, 435, 436, 437, 438, 82, 83, 439, 84, 77, 78, 81, 440, 75, 76, 441, 50, 51, 52, 277, 2, 278, 279, 280, 442, 443, 444, 445, 446, 447, 448, 449, 710, 711, 712, 713, 165, 714, 715, 716, 717, 458, 459, 460, 461, 764, 765, 766, 767, 768, 785, 786, 787, 788, 789, 790, 791, 792, 793, 794, 804, 805, 806, 807, 808, 809, 810, 811, 812, 813] (by decide +kernel) (by decide +kernel)
set_option maxRecDepth 20000 in
theorem gL_law_X4_evenness : GoodIn wsL_law (wsV RL 156 RX4 yX4_evenness wsX4_evenness) := goodIn_app (goodIn_of _ (by decide +kernel)) ggL_law_X4_evenness
set_option maxRecDepth 20000 in
theorem ggL_law_X5_evenness : GoodIn wsL_law wsX5_evenness := goodIn_r _ [721, 131, 722, 723, 724, 5, 725, 90, 499, 500, 501, 502, 503, 97, 95, 96, 298, 299, 300, 301, 302, 303, 304, 305, 306, 504, 505, 506, 507, 769, 770, 771, 772, 773, 774, 775, 776, 777, 778, 779, 780, 781, 782, 783, 784] (by decide +kernel) (by decide +kernel)
set_option maxRecDepth 20000 in
theorem gL_law_X5_evenness : GoodIn wsL_law (wsV RL 160 RX5 yX5_evenness wsX5_evenness) := goodIn_app (goodIn_of _ (by decide +kernel)) ggL_law_X5_evenness
set_option maxRecDepth 20000 in
theorem ggL_law_X4_digest : GoodIn wsL_law wsX4_digest := goodIn_r _ [729, 28, 16, 730, 224, 542, 543, 24, 318, 731, 427, 428, 429, 27, 430, 431, 79, 432, 46, 47, 48, 433, 80, 434, 435, 436, 437, 438, 82, 83, 439, 84, 77, 78, 81, 440, 75, 76, 441, 50, 51, 52, 277, 2, 278, 279, 280, 442, 443, 444, 445, 446, 447, 448, 449, 555, 556, 557, 558, 271, 210, 559, 20, 411, 560, 561, 562, 15, 563, 36, 564, 565, 566, 567, 568, 569, 570, 571, 572, 573, 574, 575, 471, 463, 464, 465, 576, 577, 578, 579, 580, 467, 468, 469, 470, 459, 460, 461, 581, 582, 583, 584, 472, 473, 474, 475, 466, 476, 477, 478, 479, 37, 285, 286, 287, 288, 35, 480, 481, 482, 483, 484, 485, 486, 585, 586, 587, 588, 589, 732, 733, 734, 735, 736, 737, 738, 739, 189, 29, 450, 451, 452, 453, 108, 165, 188, 454, 455, 456, 457, 458, 462, 193, 194, 195, 631, 632, 633, 634, 635, 636, 637, 638, 658, 659, 660, 661, 677, 678, 679, 680, 681, 694, 695, 696, 697, 710, 711, 712, 713, 714, 715, 716, 717, 740, 741, 742, 743, 744, 745, 764, 765, 766, 767, 768, 785, 786, 787, 788, 789, 790, 791, 792, 793, 794, 804, 805, 806, 807, 808, 809, 810, 811, 812, 813, 798, 799, 800, 801, 802, 803, 795, 796, 797] (by decide +kernel) (by decide +kernel)
set_option maxRecDepth 20000 in
theorem gL_law_X4_digest : GoodIn wsL_law (wsV RL 161 RX4 yX4_digest wsX4_digest) := goodIn_app (goodIn_of _ (by decide +kernel)) ggL_law_X4_digest
set_option maxRecDepth 20000 in
theorem ggL_law_X5_digest : GoodIn wsL_law wsX5_digest := goodIn_r _ [749, 131, 750, 751, 90, 96, 95, 327, 93, 594, 595, 596, 5, 597, 149, 499, 500, 501, 502, 503, 97, 298, 299, 300, 301, 302, 303, 304, 305, 306, 598, 599, 600, 601, 602, 603, 604, 605, 512, 513, 514, 515, 508, 509, 510, 511, 516, 517, 518, 519, 504, 505, 506, 507, 520, 521, 522, 523, 495, 496, 497, 498, 307, 308, 309, 310, 89, 606, 607, 608, 609, 610, 611, 612, 491, 492, 493, 494, 643, 644, 645, 646, 91, 647, 648, 649, 650, 666, 667, 668, 669, 686, 687, 688, 689, 702, 703, 704, 705, 722, 723, 724, 725, 752, 753, 754, 755, 756, 757, 758, 759, 760, 761, 762, 763, 769, 770, 771, 772, 773, 774, 775, 776, 777, 778, 779, 780, 781, 782, 783, 784] (by decide +kernel) (by decide +kernel)
set_option maxRecDepth 20000 in
theorem gL_law_X5_digest : GoodIn wsL_law (wsV RL 165 RX5 yX5_digest wsX5_digest) := goodIn_app (goodIn_of _ (by decide +kernel)) ggL_law_X5_digest

