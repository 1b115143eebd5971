set_option maxRecDepth 20000 in
theorem ggL_law_X4_init : GoodIn wsL_law wsX4_init := goodIn_r _ [9, 10, 11, 12, 13, 14, 15, 16, 17, 18, 19, 20, 21, 22, 23, 24, 25, 26, 27, 28, 29, 30, 31, 32, 33, 34, 35, 36, 37, 38, 39, 40, 41, 42, 43, 44, 45, 46, 47, 48, 49, 50, 51, 52, 53, 54, 55, 56, 57, 58, 59, 60, 61, 62, 63, 64, 65, 66, 67, 68, 69, 70, 71, 72, 73, 74, 75, 76, 77, 78, 79, 80, 81, 82, 83, 784, 785, 786, 787, 788, 789, 790, 791, 792, 793, 763, 764, 765, 766, 767, 794, 795, 796, 797, 798, 799, 800, 801, 802, 803, 804, 805, 806, 807, 808, 809, 810, 811, 812] (by decide +kernel) (by decide +kernel)
set_option maxRecDepth 20000 in
theorem gL_law_X4_init : GoodIn wsL_law (wsX4_init) := ggL_law_X4_init
set_option maxRecDepth 20000 in
theorem ggL_law_X5_init : GoodIn wsL_law wsX5_init := goodIn_r _ [86, 87, 11, 12, 34, 88, 89, 90, 91, 92, 93, 94, 95, 96, 768, 769, 770, 771, 772, 773, 774, 775, 776, 777, 778, 779, 780, 781, 782, 783] (by decide +kernel) (by decide +kernel)
set_option maxRecDepth 20000 in
theorem gL_law_X5_init : GoodIn wsL_law (wsX5_init) := ggL_law_X5_init
set_option maxRecDepth 20000 in
theorem ggL_law_L_show : GoodIn wsL_law wsL_show := goodIn_ca (goodIn_ca (goodIn_r _ [100, 101, 102, 103, 104, 105, 2, 106, 20, 16, 107, 108, 109, 110, 111, 112, 113, 114, 115, 116, 117, 118, 119, 120, 19, 121, 60, 59, 58, 122, 123, 124, 15, 125, 35, 45, 46, 47, 48, 36, 37, 38, 39, 40, 41, 42, 43, 44, 763, 764, 765, 766, 767, 784, 785, 786, 787, 788, 789, 790, 791, 792, 793, 794, 795, 796] (by decide +kernel) (by decide +kernel)) (goodIn_sub (fun _ h => List.mem_append_left _ (List.mem_append_left _ (List.mem_append_right _ h))) (by decide +kernel))) (goodIn_sub (fun _ h => List.mem_append_left _ (List.mem_append_right _ h)) (by decide +kernel))
set_option maxRecDepth 20000 in
theorem gL_law_L_show : GoodIn wsL_law (va_wsS RL 79 yL_show wsL_show) := goodIn_app (goodIn_of _ (by decide +kernel)) ggL_law_L_show
set_option maxRecDepth 20000 in
theorem ggL_law_X5_show : GoodIn wsL_law wsX5_show := goodIn_r _ [129, 130, 131, 132, 5, 133, 134, 135, 136, 137, 138, 139, 140, 141, 142, 143, 144, 145, 146, 147, 148, 91, 89, 149, 150, 151, 152, 768, 769, 770, 771, 772, 773, 774, 775, 776, 777, 778, 779, 780, 781, 782, 783] (by decide +kernel) (by decide +kernel)
set_option maxRecDepth 20000 in
theorem gL_law_X5_show : GoodIn wsL_law (wsV RL 84 RX5 yX5_show wsX5_show) := goodIn_app (goodIn_of _ (by decide +kernel)) ggL_law_X5_show
set_option maxRecDepth 20000 in
theorem ggL_law_X5_thrown : GoodIn wsL_law wsX5_thrown := goodIn_r _ [156, 130, 768, 769, 770, 771, 772, 773, 774, 775, 776, 777, 778, 779, 780, 781, 782, 783] (by decide +kernel) (by decide +kernel)
set_option maxRecDepth 20000 in
theorem gL_law_X5_thrown : GoodIn wsL_law (wsV RL 85 RX5 yX5_thrown wsX5_thrown) := goodIn_app (goodIn_of _ (by decide +kernel)) ggL_law_X5_thrown
set_option maxRecDepth 20000 in
theorem ggL_law_L_level : GoodIn wsL_law wsL_level := goodIn_ca (goodIn_ca (goodIn_r _ [159, 101, 102, 160, 161, 162, 2, 163, 20, 16, 164, 108, 109, 110, 111, 112, 113, 114, 115, 116, 117, 118, 119, 120, 19, 121, 60, 59, 58, 122, 123, 124, 15, 125, 35, 45, 46, 47, 48, 36, 37, 38, 39, 40, 41, 42, 43, 44, 165, 166, 167, 168, 49, 50, 51, 52, 763, 764, 765, 766, 767, 784, 785, 786, 787, 788, 789, 790, 791, 792, 793, 794, 795, 796] (by decide +kernel) (by decide +kernel)) (goodIn_sub (fun _ h => List.mem_append_left _ (List.mem_append_left _ (List.mem_append_right _ h))) (by decide +kernel))) (goodIn_sub (fun _ h => List.mem_append_left _ (List.mem_append_right _ h)) (by decide +kernel))
set_option maxRecDepth 20000 in
theorem gL_law_L_level : GoodIn wsL_law (va_wsS RL 88 yL_level wsL_level) := goodIn_app (goodIn_of _ (by decide +kernel)) ggL_law_L_level
set_option maxRecDepth 20000 in
theorem ggL_law_X5_level : GoodIn wsL_law wsX5_level := goodIn_r _ [172, 130, 131, 132, 5, 133, 134, 135, 136, 137, 138, 139, 140, 173, 174, 175, 144, 145, 146, 147, 148, 91, 89, 176, 177, 178, 179, 149, 150, 151, 152, 768, 769, 770, 771, 772, 773, 774, 775, 776, 777, 778, 779, 780, 781, 782, 783] (by decide +kernel) (by decide +kernel)
set_option maxRecDepth 20000 in
theorem gL_law_X5_level : GoodIn wsL_law (wsV RL 90 RX5 yX5_level wsX5_level) := goodIn_app (goodIn_of _ (by decide +kernel)) ggL_law_X5_level
set_option maxRecDepth 20000 in
theorem ggL_law_L_burn : GoodIn wsL_law wsL_burn := goodIn_ca (goodIn_r _ [182, 101, 183, 184, 185, 2, 186, 20, 16, 187, 188, 108, 109, 110, 111, 112, 189, 190, 191, 118, 119, 120, 19, 121, 60, 59, 58, 122, 123, 124, 15, 125, 35, 45, 46, 47, 48, 36, 37, 38, 39, 40, 41, 42, 43, 44, 192, 193, 194, 763, 764, 765, 766, 767, 784, 785, 786, 787, 788, 789, 790, 791, 792, 793, 794, 795, 796] (by decide +kernel) (by decide +kernel)) (goodIn_sub (fun _ h => List.mem_append_left _ (List.mem_append_left _ (List.mem_append_right _ h))) (by decide +kernel))
set_option maxRecDepth 20000 in
theorem gL_law_L_burn : GoodIn wsL_law (va_wsS RL 91 yL_burn wsL_burn) := goodIn_app (goodIn_of _ (by decide +kernel)) ggL_law_L_burn
set_option maxRecDepth 20000 in
theorem ggL_law_X5_burn : GoodIn wsL_law wsX5_burn := goodIn_r _ [198, 130, 89, 131, 132, 5, 133, 134, 135, 136, 199, 200, 201, 137, 138, 139, 140, 144, 145, 146, 147, 148, 91, 768, 769, 770, 771, 772, 773, 774, 775, 776, 777, 778, 779, 780, 781, 782, 783] (by decide +kernel) (by decide +kernel)
set_option maxRecDepth 20000 in
theorem gL_law_X5_burn : GoodIn wsL_law (wsV RL 94 RX5 yX5_burn wsX5_burn) := goodIn_app (goodIn_of _ (by decide +kernel)) ggL_law_X5_burn
set_option maxRecDepth 20000 in
theorem ggL_law_L_ambient : GoodIn wsL_law wsL_ambient := goodIn_ca (goodIn_r _ [204, 102, 205, 206, 207, 2, 208, 20, 16, 209, 113, 114, 115, 116, 117, 118, 119, 120, 19, 121, 60, 59, 58, 122, 123, 124, 15, 125, 35, 45, 46, 47, 48, 36, 37, 38, 39, 40, 41, 42, 43, 44, 763, 764, 765, 766, 767, 784, 785, 786, 787, 788, 789, 790, 791, 792, 793, 794, 795, 796] (by decide +kernel) (by decide +kernel)) (goodIn_sub (fun _ h => List.mem_append_left _ (List.mem_append_right _ h)) (by decide +kernel))
set_option maxRecDepth 20000 in
theorem gL_law_L_ambient : GoodIn wsL_law (va_wsS RL 95 yL_ambient wsL_ambient) := goodIn_app (goodIn_of _ (by decide +kernel)) ggL_law_L_ambient
set_option maxRecDepth 20000 in
theorem ggL_law_X5_ambient : GoodIn wsL_law wsX5_ambient := goodIn_r _ [213, 130, 134, 135, 5, 136, 137, 138, 139, 140, 144, 145, 146, 147, 148, 91, 89, 149, 150, 151, 152, 768, 769, 770, 771, 772, 773, 774, 775, 776, 777, 778, 779, 780, 781, 782, 783] (by decide +kernel) (by decide +kernel)
set_option maxRecDepth 20000 in
theorem gL_law_X5_ambient : GoodIn wsL_law (wsV RL 98 RX5 yX5_ambient wsX5_ambient) := goodIn_app (goodIn_of _ (by decide +kernel)) ggL_law_X5_ambient
set_option maxRecDepth 20000 in
theorem ggL_law_L_set : GoodIn wsL_law wsL_set := goodIn_ca (goodIn_ca (goodIn_r _ [216, 101, 102, 217, 218, 219, 2, 220, 221, 222, 20, 16, 223, 224, 225, 226, 111, 112, 113, 114, 115, 116, 117, 118, 119, 120, 19, 121, 60, 59, 58, 122, 123, 124, 15, 125, 35, 45, 46, 47, 48, 36, 37, 38, 39, 40, 41, 42, 43, 44, 763, 764, 765, 766, 767, 784, 785, 786, 787, 788, 789, 790, 791, 792, 793, 794, 795, 796] (by decide +kernel) (by decide +kernel)) (goodIn_sub (fun _ h => List.mem_append_left _ (List.mem_append_left _ (List.mem_append_right _ h))) (by decide +kernel))) (goodIn_sub (fun _ h => List.mem_append_left _ (List.mem_append_right _ h)) (by decide +kernel))
set_option maxRecDepth 20000 in
theorem gL_law_L_set : GoodIn wsL_law (va_wsS RL 99 yL_set wsL_set) := goodIn_app (goodIn_of _ (by decide +kernel)) ggL_law_L_set
set_option maxRecDepth 20000 in
theorem ggL_law_X5_set : GoodIn wsL_law wsX5_set := goodIn_r _ [230, 130, 134, 135, 5, 136, 137, 138, 139, 140, 231, 232, 233, 144, 145, 146, 147, 148, 91, 89, 149, 150, 151, 152, 768, 769, 770, 771, 772, 773, 774, 775, 776, 777, 778, 779, 780, 781, 782, 783] (by decide +kernel) (by decide +kernel)
set_option maxRecDepth 20000 in
theorem gL_law_X5_set : GoodIn wsL_law (wsV RL 101 RX5 yX5_set wsX5_set) := goodIn_app (goodIn_of _ (by decide +kernel)) ggL_law_X5_set
set_option maxRecDepth 20000 in
theorem ggL_law_L_number : GoodIn wsL_law wsL_number := goodIn_ca (goodIn_ca (goodIn_r _ [236, 101, 102, 237, 238, 239, 2, 240, 20, 16, 108, 109, 110, 111, 112, 241, 242, 243, 244, 245, 246, 247, 113, 114, 115, 116, 117, 118, 119, 120, 19, 121, 60, 59, 58, 122, 123, 124, 15, 125, 35, 45, 46, 47, 48, 36, 37, 38, 39, 40, 41, 42, 43, 44, 248, 249, 250, 251, 252, 763, 764, 765, 766, 767, 794, 795, 796, 784, 785, 786, 787, 788, 789, 790, 791, 792, 793] (by decide +kernel) (by decide +kernel)) (goodIn_sub (fun _ h => List.mem_append_left _ (List.mem_append_left _ (List.mem_append_right _ h))) (by decide +kernel))) (goodIn_sub (fun _ h => List.mem_append_left _ (List.mem_append_right _ h)) (by decide +kernel))
set_option maxRecDepth 20000 in
theorem gL_law_L_number : GoodIn wsL_law (va_wsS RL 102 yL_number wsL_number) := goodIn_app (goodIn_of _ (by decide +kernel)) ggL_law_L_number
set_option maxRecDepth 20000 in
theorem ggL_law_X5_number : GoodIn wsL_law wsX5_number := goodIn_r _ [256, 130, 89, 131, 132, 5, 133, 134, 135, 136, 137, 138, 139, 140, 257, 258, 259, 144, 145, 146, 147, 148, 91, 768, 769, 770, 771, 772, 773, 774, 775, 776, 777, 778, 779, 780, 781, 782, 783] (by decide +kernel) (by decide +kernel)
set_option maxRecDepth 20000 in
theorem gL_law_X5_number : GoodIn wsL_law (wsV RL 105 RX5 yX5_number wsX5_number) := goodIn_app (goodIn_of _ (by decide +kernel)) ggL_law_X5_number
set_option maxRecDepth 20000 in
theorem ggL_law_L_run : GoodIn wsL_law wsL_run := goodIn_ca (goodIn_ca (goodIn_r _ [262, 102, 263, 264, 265, 266, 2, 267, 268, 269, 16, 270, 271, 20, 113, 114, 115, 116, 117, 118, 119, 120, 19, 121, 60, 59, 58, 122, 123, 124, 15, 125, 35, 45, 46, 47, 48, 36, 37, 38, 39, 40, 41, 42, 43, 44, 272, 273, 274, 275, 276, 277, 278, 279, 280, 281, 282, 283, 284, 285, 286, 287, 193, 194, 763, 764, 765, 766, 767, 784, 785, 786, 787, 788, 789, 790, 791, 792, 793, 794, 795, 796] (by decide +kernel) (by decide +kernel)) (goodIn_sub (fun _ h => List.mem_append_right _ h) (by decide +kernel))) (goodIn_sub (fun _ h => List.mem_append_left _ (List.mem_append_right _ h)) (by decide +kernel))
set_option maxRecDepth 20000 in
theorem gL_law_L_run : GoodIn wsL_law (va_wsS RL 106 yL_run wsL_run) := goodIn_app (goodIn_of _ (by decide +kernel)) ggL_law_L_run
set_option maxRecDepth 20000 in
theorem ggL_law_X5_run : GoodIn wsL_law wsX5_run := goodIn_r _ [291, 130, 89, 292, 134, 135, 5, 136, 137, 138, 139, 140, 144, 145, 146, 147, 148, 91, 293, 294, 295, 296, 297, 298, 299, 300, 301, 302, 303, 304, 305, 306, 307, 308, 309, 88, 768, 769, 770, 771, 772, 773, 774, 775, 776, 777, 778, 779, 780, 781, 782, 783] (by decide +kernel) (by decide +kernel)
set_option maxRecDepth 20000 in
theorem gL_law_X5_run : GoodIn wsL_law (wsV RL 108 RX5 yX5_run wsX5_run) := goodIn_app (goodIn_of _ (by decide +kernel)) ggL_law_X5_run
set_option maxRecDepth 20000 in
theorem ggL_law_L_append : GoodIn wsL_law wsL_append := goodIn_ca (goodIn_ca (goodIn_r _ [312, 102, 263, 313, 314, 315, 2, 316, 268, 269, 24, 317, 113, 114, 115, 116, 117, 318, 319, 320, 23, 321, 66, 65, 763, 764, 765, 766, 767, 797, 798, 799, 800, 801, 802] (by decide +kernel) (by decide +kernel)) (goodIn_sub (fun _ h => List.mem_append_right _ h) (by decide +kernel))) (goodIn_sub (fun _ h => List.mem_append_left _ (List.mem_append_right _ h)) (by decide +kernel))
set_option maxRecDepth 20000 in
theorem gL_law_L_append : GoodIn wsL_law (va_wsS RL 109 yL_append wsL_append) := goodIn_app (goodIn_of _ (by decide +kernel)) ggL_law_L_append
set_option maxRecDepth 20000 in
theorem ggL_law_X5_append : GoodIn wsL_law wsX5_append := goodIn_r _ [325, 130, 326, 92, 134, 135, 5, 136, 137, 138, 139, 140, 768, 769, 770, 771, 772, 773, 774, 775, 776, 777, 778, 779, 780, 781, 782, 783] (by decide +kernel) (by decide +kernel)
set_option maxRecDepth 20000 in
theorem gL_law_X5_append : GoodIn wsL_law (wsV RL 111 RX5 yX5_append wsX5_append) := goodIn_app (goodIn_of _ (by decide +kernel)) ggL_law_X5_append
set_option maxRecDepth 20000 in
theorem ggL_law_X4_clearBuffer : GoodIn wsL_law wsX4_clearBuffer := goodIn_r _ [330, 24, 317, 763, 764, 765, 766, 767, 797, 798, 799, 800, 801, 802] (by decide +kernel) (by decide +kernel)
set_option maxRecDepth 20000 in
theorem gL_law_X4_clearBuffer : GoodIn wsL_law (wsV RL 112 RX4 yX4_clearBuffer wsX4_clearBuffer) := goodIn_app (goodIn_of _ (by decide +kernel)) ggL_law_X4_clearBuffer
set_option maxRecDepth 20000 in
theorem ggL_law_X5_clearBuffer : GoodIn wsL_law wsX5_clearBuffer := goodIn_r _ [334, 130, 326, 768, 769, 770, 771, 772, 773, 774, 775, 776, 777, 778, 779, 780, 781, 782, 783] (by decide +kernel) (by decide +kernel)
set_option maxRecDepth 20000 in
theorem gL_law_X5_clearBuffer : GoodIn wsL_law (wsV RL 115 RX5 yX5_clearBuffer wsX5_clearBuffer) := goodIn_app (goodIn_of _ (by decide +kernel)) ggL_law_X5_clearBuffer
set_option maxRecDepth 20000 in
theorem ggL_law_X4_firstError : GoodIn wsL_law wsX4_firstError := goodIn_r _ [338, 24, 339, 340, 341, 23, 342, 69, 70, 66, 65, 343, 344, 345, 346, 347, 348, 349, 350, 351, 352, 353, 354, 68, 355, 356, 357, 358, 67, 359, 360, 361, 763, 764, 765, 766, 767, 797, 798, 799, 800, 801, 802] (by decide +kernel) (by decide +kernel)
set_option maxRecDepth 20000 in
theorem gL_law_X4_firstError : GoodIn wsL_law (wsV RL 116 RX4 yX4_firstError wsX4_firstError) := goodIn_app (goodIn_of _ (by decide +kernel)) ggL_law_X4_firstError
set_option maxRecDepth 20000 in
theorem ggL_law_X5_firstError : GoodIn wsL_law wsX5_firstError := goodIn_r _ [365, 130, 366, 367, 326, 368, 369, 370, 5, 371, 372, 373, 374, 375, 376, 93, 92, 377, 378, 379, 380, 134, 135, 136, 381, 382, 383, 384, 768, 769, 770, 771, 772, 773, 774, 775, 776, 777, 778, 779, 780, 781, 782, 783] (by decide +kernel) (by decide +kernel)
set_option maxRecDepth 20000 in
theorem gL_law_X5_firstError : GoodIn wsL_law (wsV RL 119 RX5 yX5_firstError wsX5_firstError) := goodIn_app (goodIn_of _ (by decide +kernel)) ggL_law_X5_firstError
set_option maxRecDepth 20000 in
theorem ggL_law_L_read : GoodIn wsL_law wsL_read := goodIn_ca (goodIn_r _ [387, 102, 388, 389, 390, 2, 391, 116, 117, 24, 317, 20, 16, 392, 107, 393, 394, 164, 339, 340, 341, 23, 342, 69, 70, 66, 65, 343, 344, 345, 346, 347, 348, 349, 350, 351, 352, 353, 354, 68, 355, 356, 357, 358, 67, 359, 360, 361, 395, 396, 397, 398, 118, 119, 120, 19, 121, 60, 59, 58, 122, 123, 124, 15, 125, 35, 45, 46, 47, 48, 36, 37, 38, 39, 40, 41, 42, 43, 44, 165, 166, 167, 168, 49, 50, 51, 52, 763, 764, 765, 766, 767, 797, 798, 799, 800, 801, 802, 784, 785, 786, 787, 788, 789, 790, 791, 792, 793, 794, 795, 796] (by decide +kernel) (by decide +kernel)) (goodIn_sub (fun _ h => List.mem_append_left _ (List.mem_append_right _ h)) (by decide +kernel))
set_option maxRecDepth 20000 in
theorem gL_law_L_read : GoodIn wsL_law (va_wsS RL 120 yL_read wsL_read) := goodIn_app (goodIn_of _ (by decide +kernel)) ggL_law_L_read
set_option maxRecDepth 20000 in
theorem ggL_law_X5_read : GoodIn wsL_law wsX5_read := goodIn_r _ [402, 130, 326, 372, 89, 93, 368, 369, 370, 5, 371, 367, 366, 373, 374, 375, 376, 92, 377, 378, 379, 380, 134, 135, 136, 381, 382, 383, 384, 137, 138, 139, 140, 144, 145, 146, 147, 148, 91, 176, 177, 178, 179, 768, 769, 770, 771, 772, 773, 774, 775, 776, 777, 778, 779, 780, 781, 782, 783] (by decide +kernel) (by decide +kernel)
set_option maxRecDepth 20000 in
theorem gL_law_X5_read : GoodIn wsL_law (wsV RL 123 RX5 yX5_read wsX5_read) := goodIn_app (goodIn_of _ (by decide +kernel)) ggL_law_X5_read
set_option maxRecDepth 20000 in
theorem ggL_law_L_undo : GoodIn wsL_law wsL_undo := goodIn_ca (goodIn_r _ [405, 263, 406, 407, 408, 2, 409, 268, 269, 20, 410, 16, 411, 412, 413, 19, 414, 60, 58, 59, 122, 123, 124, 15, 125, 35, 45, 46, 47, 48, 36, 37, 38, 39, 40, 41, 42, 43, 44, 763, 764, 765, 766, 767, 794, 795, 796, 784, 785, 786, 787, 788, 789, 790, 791, 792, 793] (by decide +kernel) (by decide +kernel)) (goodIn_sub (fun _ h => List.mem_append_right _ h) (by decide +kernel))
set_option maxRecDepth 20000 in
theorem gL_law_L_undo : GoodIn wsL_law (va_wsS RL 124 yL_undo wsL_undo) := goodIn_app (goodIn_of _ (by decide +kernel)) ggL_law_L_undo
set_option maxRecDepth 20000 in
theorem ggL_law_X5_undo : GoodIn wsL_law wsX5_undo := goodIn_r _ [418, 130, 148, 89, 91, 137, 138, 139, 5, 140, 768, 769, 770, 771, 772, 773, 774, 775, 776, 777, 778, 779, 780, 781, 782, 783] (by decide +kernel) (by decide +kernel)
set_option maxRecDepth 20000 in
theorem gL_law_X5_undo : GoodIn wsL_law (wsV RL 126 RX5 yX5_undo wsX5_undo) := goodIn_app (goodIn_of _ (by decide +kernel)) ggL_law_X5_undo
set_option maxRecDepth 20000 in
theorem ggL_law_L_digit : GoodIn wsL_law wsL_digit := goodIn_ca (goodIn_ca (goodIn_r _ [421, 101, 102, 422, 423, 424, 2, 425, 28, 16, 108, 109, 110, 111, 112, 113, 114, 115, 116, 117, 426, 427, 428, 27, 429, 430, 78, 431, 46, 47, 48, 432, 79, 433, 434, 435, 436, 437, 81, 82, 438, 83, 76, 77, 80, 439, 74, 75, 440, 50, 51, 52, 276, 277, 278, 279, 441, 442, 443, 444, 445, 446, 447, 448, 449, 450, 451, 452, 107, 164, 187, 453, 454, 455, 456, 285, 286, 15, 287, 35, 37, 457, 458, 459, 460, 461, 462, 463, 464, 465, 466, 467, 468, 469, 470, 471, 472, 473, 474, 475, 476, 477, 478, 284, 479, 480, 481, 482, 483, 484, 485, 763, 764, 765, 766, 767, 784, 785, 786, 787, 788, 789, 790, 791, 792, 793, 803, 804, 805, 806, 807, 808, 809, 810, 811, 812] (by decide +kernel) (by decide +kernel)) (goodIn_sub (fun _ h => List.mem_append_left _ (List.mem_append_left _ (List.mem_append_right _ h))) (by decide +kernel))) (goodIn_sub (fun _ h => List.mem_append_left _ (List.mem_append_right _ h)) (by decide +kernel))
set_option maxRecDepth 20000 in
theorem gL_law_L_digit : GoodIn wsL_law (va_wsS RL 127 yL_digit wsL_digit) := goodIn_app (goodIn_of _ (by decide +kernel)) ggL_law_L_digit
set_option maxRecDepth 20000 in
theorem ggL_law_X5_digit : GoodIn wsL_law wsX5_digit := goodIn_r _ [489, 130, 131, 132, 5, 133, 134, 135, 136, 137, 138, 139, 140, 490, 491, 492, 493, 89, 306, 307, 308, 309, 88, 494, 495, 496, 497, 498, 499, 500, 501, 502, 96, 94, 95, 297, 298, 299, 300, 301, 302, 303, 304, 305, 503, 504, 505, 506, 507, 508, 509, 510, 511, 512, 513, 514, 515, 516, 517, 518, 519, 520, 521, 522, 768, 769, 770, 771, 772, 773, 774, 775, 776, 777, 778, 779, 780, 781, 782, 783] (by decide +kernel) (by decide +kernel)
set_option maxRecDepth 20000 in
theorem gL_law_X5_digit : GoodIn wsL_law (wsV RL 129 RX5 yX5_digit wsX5_digit) := goodIn_app (goodIn_of _ (by decide +kernel)) ggL_law_X5_digit
set_option maxRecDepth 20000 in
theorem ggL_law_L_wear : GoodIn wsL_law wsL_wear := goodIn_ca (goodIn_r _ [525, 101, 526, 527, 528, 2, 529, 16, 188, 108, 109, 110, 111, 112, 189, 190, 191, 192, 193, 194, 763, 764, 765, 766, 767, 784, 785, 786, 787, 788, 789, 790, 791, 792, 793] (by decide +kernel) (by decide +kernel)) (goodIn_sub (fun _ h => List.mem_append_left _ (List.mem_append_left _ (List.mem_append_right _ h))) (by decide +kernel))
set_option maxRecDepth 20000 in
theorem gL_law_L_wear : GoodIn wsL_law (va_wsS RL 130 yL_wear wsL_wear) := goodIn_app (goodIn_of _ (by decide +kernel)) ggL_law_L_wear
set_option maxRecDepth 20000 in
theorem ggL_law_X5_wear : GoodIn wsL_law wsX5_wear := goodIn_r _ [533, 130, 89, 131, 132, 5, 133, 134, 135, 136, 199, 200, 201, 137, 138, 139, 140, 768, 769, 770, 771, 772, 773, 774, 775, 776, 777, 778, 779, 780, 781, 782, 783] (by decide +kernel) (by decide +kernel)
set_option maxRecDepth 20000 in
theorem gL_law_X5_wear : GoodIn wsL_law (wsV RL 132 RX5 yX5_wear wsX5_wear) := goodIn_app (goodIn_of _ (by decide +kernel)) ggL_law_X5_wear
set_option maxRecDepth 20000 in
theorem ggL_law_L_slot : GoodIn wsL_law wsL_slot := goodIn_ca (goodIn_r _ [536, 102, 537, 538, 539, 2, 540, 16, 223, 28, 541, 542, 113, 114, 115, 116, 117, 426, 427, 428, 27, 429, 430, 78, 431, 46, 47, 48, 432, 79, 433, 434, 435, 436, 437, 81, 82, 438, 83, 76, 77, 80, 439, 74, 75, 440, 50, 51, 52, 276, 277, 278, 279, 441, 442, 443, 444, 445, 446, 447, 448, 763, 764, 765, 766, 767, 784, 785, 786, 787, 788, 789, 790, 791, 792, 793, 803, 804, 805, 806, 807, 808, 809, 810, 811, 812] (by decide +kernel) (by decide +kernel)) (goodIn_sub (fun _ h => List.mem_append_left _ (List.mem_append_right _ h)) (by decide +kernel))
set_option maxRecDepth 20000 in
theorem gL_law_L_slot : GoodIn wsL_law (va_wsS RL 133 yL_slot wsL_slot) := goodIn_app (goodIn_of _ (by decide +kernel)) ggL_law_L_slot
set_option maxRecDepth 20000 in
theorem ggL_law_X5_slot : GoodIn wsL_law wsX5_slot := goodIn_r _ [546, 130, 89, 95, 94, 134, 135, 5, 136, 137, 138, 139, 140, 498, 499, 500, 501, 502, 96, 297, 298, 299, 300, 301, 302, 303, 304, 305, 768, 769, 770, 771, 772, 773, 774, 775, 776, 777, 778, 779, 780, 781, 782, 783] (by decide +kernel) (by decide +kernel)
set_option maxRecDepth 20000 in
theorem gL_law_X5_slot : GoodIn wsL_law (wsV RL 136 RX5 yX5_slot wsX5_slot) := goodIn_app (goodIn_of _ (by decide +kernel)) ggL_law_X5_slot
set_option maxRecDepth 20000 in
theorem ggL_law_L_count : GoodIn wsL_law wsL_count := goodIn_ca (goodIn_r _ [549, 102, 550, 551, 552, 2, 553, 28, 16, 113, 114, 115, 116, 117, 426, 427, 428, 27, 429, 430, 78, 431, 46, 47, 48, 432, 79, 433, 434, 435, 436, 437, 81, 82, 438, 83, 76, 77, 80, 439, 74, 75, 440, 50, 51, 52, 276, 277, 278, 279, 441, 442, 443, 444, 445, 446, 447, 448, 554, 555, 556, 557, 270, 209, 558, 20, 410, 559, 560, 561, 15, 562, 36, 563, 564, 565, 566, 567, 568, 569, 570, 571, 572, 573, 574, 470, 462, 463, 464, 575, 576, 577, 578, 579, 466, 467, 468, 469, 458, 459, 460, 580, 581, 582, 583, 471, 472, 473, 474, 465, 475, 476, 477, 478, 37, 284, 285, 286, 287, 35, 479, 480, 481, 482, 483, 484, 485, 584, 585, 586, 587, 588, 763, 764, 765, 766, 767, 784, 785, 786, 787, 788, 789, 790, 791, 792, 793, 803, 804, 805, 806, 807, 808, 809, 810, 811, 812, 794, 795, 796] (by decide +kernel) (by decide +kernel)) (goodIn_sub (fun _ h => List.mem_append_left _ (List.mem_append_right _ h)) (by decide +kernel))
set_option maxRecDepth 20000 in
theorem gL_law_L_count : GoodIn wsL_law (va_wsS RL 137 yL_count wsL_count) := goodIn_app (goodIn_of _ (by decide +kernel)) ggL_law_L_count
set_option maxRecDepth 20000 in
theorem ggL_law_X5_count : GoodIn wsL_law wsX5_count := goodIn_r _ [592, 130, 134, 135, 5, 136, 593, 594, 595, 596, 89, 148, 498, 499, 500, 501, 502, 96, 94, 95, 297, 298, 299, 300, 301, 302, 303, 304, 305, 597, 598, 599, 600, 601, 602, 603, 604, 511, 512, 513, 514, 507, 508, 509, 510, 515, 516, 517, 518, 503, 504, 505, 506, 519, 520, 521, 522, 494, 495, 496, 497, 306, 307, 308, 309, 88, 605, 606, 607, 608, 609, 610, 611, 137, 138, 139, 140, 768, 769, 770, 771, 772, 773, 774, 775, 776, 777, 778, 779, 780, 781, 782, 783] (by decide +kernel) (by decide +kernel)
set_option maxRecDepth 20000 in
theorem gL_law_X5_count : GoodIn wsL_law (wsV RL 139 RX5 yX5_count wsX5_count) := goodIn_app (goodIn_of _ (by decide +kernel)) ggL_law_X5_count
set_option maxRecDepth 20000 in
theorem ggL_law_L_setting : GoodIn wsL_law wsL_setting := goodIn_ca (goodIn_r _ [614, 101, 615, 616, 617, 2, 618, 16, 223, 224, 225, 226, 111, 112, 763, 764, 765, 766, 767, 784, 785, 786, 787, 788, 789, 790, 791, 792, 793] (by decide +kernel) (by decide +kernel)) (goodIn_sub (fun _ h => List.mem_append_left _ (List.mem_append_left _ (List.mem_append_right _ h))) (by decide +kernel))
set_option maxRecDepth 20000 in
theorem gL_law_L_setting : GoodIn wsL_law (va_wsS RL 140 yL_setting wsL_setting) := goodIn_app (goodIn_of _ (by decide +kernel)) ggL_law_L_setting
set_option maxRecDepth 20000 in
theorem ggL_law_X5_setting : GoodIn wsL_law wsX5_setting := goodIn_r _ [622, 130, 89, 134, 135, 5, 136, 137, 138, 139, 140, 768, 769, 770, 771, 772, 773, 774, 775, 776, 777, 778, 779, 780, 781, 782, 783] (by decide +kernel) (by decide +kernel)
set_option maxRecDepth 20000 in
theorem gL_law_X5_setting : GoodIn wsL_law (wsV RL 142 RX5 yX5_setting wsX5_setting) := goodIn_app (goodIn_of _ (by decide +kernel)) ggL_law_X5_setting
set_option maxRecDepth 20000 in
theorem ggL_law_L_ifLevel : GoodIn wsL_law wsL_ifLevel := goodIn_ca (goodIn_ca (goodIn_r _ [625, 101, 102, 626, 627, 628, 2, 629, 29, 16, 108, 109, 110, 111, 112, 113, 114, 115, 116, 117, 630, 631, 632, 27, 633, 430, 78, 431, 46, 47, 48, 79, 440, 50, 51, 52, 433, 434, 435, 436, 437, 81, 82, 438, 83, 76, 77, 80, 439, 74, 75, 276, 277, 278, 279, 441, 442, 443, 444, 445, 446, 447, 448, 634, 635, 636, 637, 457, 458, 459, 460, 575, 576, 577, 578, 579, 466, 467, 468, 469, 470, 462, 463, 464, 571, 572, 573, 574, 763, 764, 765, 766, 767, 784, 785, 786, 787, 788, 789, 790, 791, 792, 793, 803, 804, 805, 806, 807, 808, 809, 810, 811, 812] (by decide +kernel) (by decide +kernel)) (goodIn_sub (fun _ h => List.mem_append_left _ (List.mem_append_left _ (List.mem_append_right _ h))) (by decide +kernel))) (goodIn_sub (fun _ h => List.mem_append_left _ (List.mem_append_right _ h)) (by decide +kernel))
set_option maxRecDepth 20000 in
theorem gL_law_L_ifLevel : GoodIn wsL_law (va_wsS RL 143 yL_ifLevel wsL_ifLevel) := goodIn_app (goodIn_of _ (by decide +kernel)) ggL_law_L_ifLevel
set_option maxRecDepth 20000 in
theorem ggL_law_X5_ifLevel : GoodIn wsL_law wsX5_ifLevel := goodIn_r _ [641, 130, 131, 132, 5, 133, 134, 135, 136, 137, 138, 139, 140, 173, 174, 175, 642, 643, 644, 645, 90, 646, 647, 648, 649, 89, 498, 499, 500, 501, 502, 96, 94, 95, 297, 298, 299, 300, 301, 302, 303, 304, 305, 503, 504, 505, 506, 601, 602, 603, 604, 511, 512, 513, 514, 507, 508, 509, 510, 515, 516, 517, 518, 519, 520, 521, 522, 494, 495, 496, 497, 306, 307, 308, 309, 88, 768, 769, 770, 771, 772, 773, 774, 775, 776, 777, 778, 779, 780, 781, 782, 783] (by decide +kernel) (by decide +kernel)
set_option maxRecDepth 20000 in
theorem gL_law_X5_ifLevel : GoodIn wsL_law (wsV RL 145 RX5 yX5_ifLevel wsX5_ifLevel) := goodIn_app (goodIn_of _ (by decide +kernel)) ggL_law_X5_ifLevel
set_option maxRecDepth 20000 in
theorem ggL_law_L_leastLevel : GoodIn wsL_law wsL_leastLevel := goodIn_ca (goodIn_r _ [652, 101, 653, 654, 655, 2, 656, 108, 109, 110, 111, 112, 657, 658, 659, 660, 29, 16, 630, 631, 632, 27, 633, 430, 78, 431, 46, 47, 48, 79, 440, 50, 51, 52, 433, 434, 435, 436, 437, 81, 82, 438, 83, 76, 77, 80, 439, 74, 75, 276, 277, 278, 279, 441, 442, 443, 444, 445, 446, 447, 448, 465, 466, 467, 468, 469, 458, 459, 460, 470, 462, 463, 464, 763, 764, 765, 766, 767, 784, 785, 786, 787, 788, 789, 790, 791, 792, 793, 803, 804, 805, 806, 807, 808, 809, 810, 811, 812] (by decide +kernel) (by decide +kernel)) (goodIn_sub (fun _ h => List.mem_append_left _ (List.mem_append_left _ (List.mem_append_right _ h))) (by decide +kernel))
set_option maxRecDepth 20000 in
theorem gL_law_L_leastLevel : GoodIn wsL_law (va_wsS RL 146 yL_leastLevel wsL_leastLevel) := goodIn_app (goodIn_of _ (by decide +kernel)) ggL_law_L_leastLevel
set_option maxRecDepth 20000 in
theorem ggL_law_X5_leastLevel : GoodIn wsL_law wsX5_leastLevel := goodIn_r _ [664, 130, 131, 132, 5, 133, 134, 135, 136, 665, 666, 667, 668, 90, 646, 647, 648, 649, 89, 498, 499, 500, 501, 502, 96, 94, 95, 297, 298, 299, 300, 301, 302, 303, 304, 305, 515, 516, 517, 518, 503, 504, 505, 506, 511, 512, 513, 514, 507, 508, 509, 510, 137, 138, 139, 140, 768, 769, 770, 771, 772, 773, 774, 775, 776, 777, 778, 779, 780, 781, 782, 783] (by decide +kernel) (by decide +kernel)
set_option maxRecDepth 20000 in
theorem gL_law_X5_leastLevel : GoodIn wsL_law (wsV RL 148 RX5 yX5_leastLevel wsX5_leastLevel) := goodIn_app (goodIn_of _ (by decide +kernel)) ggL_law_X5_leastLevel
set_option maxRecDepth 20000 in
theorem ggL_law_L_alikeSigns : GoodIn wsL_law wsL_alikeSigns := goodIn_ca (goodIn_r _ [671, 101, 672, 673, 674, 2, 675, 108, 109, 110, 111, 112, 676, 677, 678, 679, 16, 187, 680, 763, 764, 765, 766, 767, 784, 785, 786, 787, 788, 789, 790, 791, 792, 793] (by decide +kernel) (by decide +kernel)) (goodIn_sub (fun _ h => List.mem_append_left _ (List.mem_append_left _ (List.mem_append_right _ h))) (by decide +kernel))
set_option maxRecDepth 20000 in
theorem gL_law_L_alikeSigns : GoodIn wsL_law (va_wsS RL 149 yL_alikeSigns wsL_alikeSigns) := goodIn_app (goodIn_of _ (by decide +kernel)) ggL_law_L_alikeSigns
set_option maxRecDepth 20000 in
theorem ggL_law_X5_alikeSigns : GoodIn wsL_law wsX5_alikeSigns := goodIn_r _ [684, 130, 131, 132, 5, 133, 134, 135, 136, 685, 686, 687, 688, 306, 307, 308, 309, 88, 89, 137, 138, 139, 140, 768, 769, 770, 771, 772, 773, 774, 775, 776, 777, 778, 779, 780, 781, 782, 783] (by decide +kernel) (by decide +kernel)
set_option maxRecDepth 20000 in
theorem gL_law_X5_alikeSigns : GoodIn wsL_law (wsV RL 151 RX5 yX5_alikeSigns wsX5_alikeSigns) := goodIn_app (goodIn_of _ (by decide +kernel)) ggL_law_X5_alikeSigns
set_option maxRecDepth 20000 in
theorem ggL_law_X4_numberShown : GoodIn wsL_law wsX4_numberShown := goodIn_r _ [692, 28, 16, 426, 427, 428, 27, 429, 430, 78, 431, 46, 47, 48, 432, 79, 433, 434, 435, 436, 437, 81, 82, 438, 83, 76, 77, 80, 439, 74, 75, 440, 50, 51, 52, 276, 2, 277, 278, 279, 441, 442, 443, 444, 445, 446, 447, 448, 693, 694, 695, 696, 107, 471, 472, 473, 474, 465, 466, 467, 468, 469, 458, 459, 460, 470, 462, 463, 464, 475, 476, 477, 15, 478, 37, 284, 285, 286, 287, 35, 479, 480, 481, 482, 483, 484, 485, 763, 764, 765, 766, 767, 784, 785, 786, 787, 788, 789, 790, 791, 792, 793, 803, 804, 805, 806, 807, 808, 809, 810, 811, 812] (by decide +kernel) (by decide +kernel)
set_option maxRecDepth 20000 in
theorem gL_law_X4_numberShown : GoodIn wsL_law (wsV RL 152 RX4 yX4_numberShown wsX4_numberShown) := goodIn_app (goodIn_of _ (by decide +kernel)) ggL_law_X4_numberShown
set_option maxRecDepth 20000 in
theorem ggL_law_X5_numberShown : GoodIn wsL_law wsX5_numberShown := goodIn_r _ [700, 130, 701, 702, 703, 5, 704, 89, 498, 499, 500, 501, 502, 96, 94, 95, 297, 298, 299, 300, 301, 302, 303, 304, 305, 519, 520, 521, 522, 494, 495, 496, 497, 306, 307, 308, 309, 88, 515, 516, 517, 518, 503, 504, 505, 506, 511, 512, 513, 514, 507, 508, 509, 510, 768, 769, 770, 771, 772, 773, 774, 775, 776, 777, 778, 779, 780, 781, 782, 783] (by decide +kernel) (by decide +kernel)
set_option maxRecDepth 20000 in
theorem gL_law_X5_numberShown : GoodIn wsL_law (wsV RL 155 RX5 yX5_numberShown wsX5_numberShown) := goodIn_app (goodIn_of _ (by decide +kernel)) ggL_law_X5_numberShown
set_option maxRecDepth 20000 in
theorem ggL_law_X4_evenness : GoodIn wsL_law wsX4_evenness := goodIn_r _ [708, 28, 16, 426, 427, 428, 27, 429, 430, 78, 431, 46, 47, 48, 432, 79, 433, 434, 435, 436, 437, 81, 82, 438, 83, 76, 77, 80, 439, 74, 75, 440, 50, 51, 52, 276, 2, 277, 278, 279, 441, 442, 443, 444, 445, 446, 447, 448, 709, 710, 711, 712, 164, 713, 714, 715, 716, 457, 458, 459, 460, 763, 764, 765, 766, 767, 784, 785, 786, 787, 788, 789, 790, 791, 792, 793, 803, 804, 805, 806, 807, 808, 809, 810, 811, 812] (by decide +kernel) (by decide +kernel)
set_option maxRecDepth 20000 in
theorem gL_law_X4_evenness : GoodIn wsL_law (wsV RL 156 RX4 yX4_evenness wsX4_evenness) := goodIn_app (goodIn_of _ (by decide +kernel)) ggL_law_X4_evenness
set_option maxRecDepth 20000 in
theorem ggL_law_X5_evenness : GoodIn wsL_law wsX5_evenness := goodIn_r _ [720, 130, 721, 722, 723, 5, 724, 89, 498, 499, 500, 501, 502, 96, 94, 95, 297, 298, 299, 300, 301, 302, 303, 304, 305, 503, 504, 505, 506, 768, 769, 770, 771, 772, 773, 774, 775, 776, 777, 778, 779, 780, 781, 782, 783] (by decide +kernel) (by decide +kernel)
set_option maxRecDepth 20000 in
theorem gL_law_X5_evenness : GoodIn wsL_law (wsV RL 160 RX5 yX5_evenness wsX5_evenness) := goodIn_app (goodIn_of _ (by decide +kernel)) ggL_law_X5_evenness
set_option maxRecDepth 20000 in
theorem ggL_law_X4_digest : GoodIn wsL_law wsX4_digest := goodIn_r _ [728, 28, 16, 729, 223, 541, 542, 24, 317, 730, 426, 427, 428, 27, 429, 430, 78, 431, 46, 47, 48, 432, 79, 433, 434, 435, 436, 437, 81, 82, 438, 83, 76, 77, 80, 439, 74, 75, 440, 50, 51, 52, 276, 2, 277, 278, 279, 441, 442, 443, 444, 445, 446, 447, 448, 554, 555, 556, 557, 270, 209, 558, 20, 410, 559, 560, 561, 15, 562, 36, 563, 564, 565, 566, 567, 568, 569, 570, 571, 572, 573, 574, 470, 462, 463, 464, 575, 576, 577, 578, 579, 466, 467, 468, 469, 458, 459, 460, 580, 581, 582, 583, 471, 472, 473, 474, 465, 475, 476, 477, 478, 37, 284, 285, 286, 287, 35, 479, 480, 481, 482, 483, 484, 485, 584, 585, 586, 587, 588, 731, 732, 733, 734, 735, 736, 737, 738, 188, 29, 449, 450, 451, 452, 107, 164, 187, 453, 454, 455, 456, 457, 461, 192, 193, 194, 630, 631, 632, 633, 634, 635, 636, 637, 657, 658, 659, 660, 676, 677, 678, 679, 680, 693, 694, 695, 696, 709, 710, 711, 712, 713, 714, 715, 716, 739, 740, 741, 742, 743, 744, 763, 764, 765, 766, 767, 784, 785, 786, 787, 788, 789, 790, 791, 792, 793, 803, 804, 805, 806, 807, 808, 809, 810, 811, 812, 797, 798, 799, 800, 801, 802, 794, 795, 796] (by decide +kernel) (by decide +kernel)
set_option maxRecDepth 20000 in
theorem gL_law_X4_digest : GoodIn wsL_law (wsV RL 161 RX4 yX4_digest wsX4_digest) := goodIn_app (goodIn_of _ (by decide +kernel)) ggL_law_X4_digest
set_option maxRecDepth 20000 in
theorem ggL_law_X5_digest : GoodIn wsL_law wsX5_digest := goodIn_r _ [748, 130, 749, 750, 89, 95, 94, 326, 92, 593, 594, 595, 5, 596, 148, 498, 499, 500, 501, 502, 96, 297, 298, 299, 300, 301, 302, 303, 304, 305, 597, 598, 599, 600, 601, 602, 603, 604, 511, 512, 513, 514, 507, 508, 509, 510, 515, 516, 517, 518, 503, 504, 505, 506, 519, 520, 521, 522, 494, 495, 496, 497, 306, 307, 308, 309, 88, 605, 606, 607, 608, 609, 610, 611, 490, 491, 492, 493, 642, 643, 644, 645, 90, 646, 647, 648, 649, 665, 666, 667, 668, 685, 686, 687, 688, 701, 702, 703, 704, 721, 722, 723, 724, 751, 752, 753, 754, 755, 756, 757, 758, 759, 760, 761, 762, 768, 769, 770, 771, 772, 773, 774, 775, 776, 777, 778, 779, 780, 781, 782, 783] (by decide +kernel) (by decide +kernel)
set_option maxRecDepth 20000 in
theorem gL_law_X5_digest : GoodIn wsL_law (wsV RL 165 RX5 yX5_digest wsX5_digest) := goodIn_app (goodIn_of _ (by decide +kernel)) ggL_law_X5_digest

