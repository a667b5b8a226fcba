set_option maxRecDepth 20000 in
theorem ggL_law_X4_init : GoodIn wsL_law wsX4_init := goodIn_r _ [9, 10, 11, 12, 13, 14, 15, 16, 17, 18, 19, 20, 21, 22, 23, 24, 25, 26, 27, 28, 29, 30, 31, 32, 33, 34, 35, 36, 37, 38, 39, 40, 41, 42, 43, 44, 662, 663, 664, 665, 666, 667, 694, 695, 696, 697, 698, 699, 700, 701, 702, 703, 704] (by decide +kernel) (by decide +kernel)
set_option maxRecDepth 20000 in
theorem gL_law_X4_init : GoodIn wsL_law (wsX4_init) := ggL_law_X4_init
set_option maxRecDepth 20000 in
theorem ggL_law_X5_init : GoodIn wsL_law wsX5_init := goodIn_r _ [47, 48, 11, 12, 32, 49, 50, 51, 52, 53, 54, 55, 56, 57, 58, 59, 60, 61, 62, 63, 64, 65, 66, 67, 68, 69, 70, 668, 669, 670, 671, 672, 673, 674, 675, 676, 677, 678, 679, 680, 681, 682, 683, 684, 685, 686, 687, 688, 689, 690, 691, 692, 693] (by decide +kernel) (by decide +kernel)
set_option maxRecDepth 20000 in
theorem gL_law_X5_init : GoodIn wsL_law (wsX5_init) := ggL_law_X5_init
set_option maxRecDepth 20000 in
theorem ggL_law_L_tape : GoodIn wsL_law wsL_tape := goodIn_ca (goodIn_ca (goodIn_r _ [74, 75, 76, 77, 78, 79, 2, 80, 81, 82, 83, 84, 15, 14, 13, 85, 86, 87, 88, 89, 90, 91, 92, 93, 94, 95, 96, 97, 11, 12, 98, 99, 100, 32, 101, 102, 103, 104, 105, 662, 663, 664, 665, 666, 667, 705, 706, 707, 708, 709, 710, 711, 712] (by decide +kernel) (by decide +kernel)) (goodIn_sub (fun _ h => List.mem_append_left _ (List.mem_append_left _ (List.mem_append_right _ h))) (by decide +kernel))) (goodIn_sub (fun _ h => List.mem_append_left _ (List.mem_append_right _ h)) (by decide +kernel))
set_option maxRecDepth 20000 in
theorem gL_law_L_tape : GoodIn wsL_law (va_wsS RL 88 yL_tape wsL_tape) := goodIn_app (goodIn_of _ (by decide +kernel)) ggL_law_L_tape
set_option maxRecDepth 20000 in
theorem ggL_law_X5_tape : GoodIn wsL_law wsX5_tape := goodIn_r _ [109, 110, 49, 50, 51, 52, 111, 112, 5, 113, 114, 115, 116, 117, 118, 119, 120, 121, 122, 668, 669, 670, 671, 672, 673, 674, 675, 676, 677, 678, 679, 680, 681, 682, 683, 684, 685, 686, 687, 688, 689, 690, 691, 692, 693] (by decide +kernel) (by decide +kernel)
set_option maxRecDepth 20000 in
theorem gL_law_X5_tape : GoodIn wsL_law (wsV RL 93 RX5 yX5_tape wsX5_tape) := goodIn_app (goodIn_of _ (by decide +kernel)) ggL_law_X5_tape
set_option maxRecDepth 20000 in
theorem ggL_law_X5_thrown : GoodIn wsL_law wsX5_thrown := goodIn_r _ [126, 118, 668, 669, 670, 671, 672, 673, 674, 675, 676, 677, 678, 679, 680, 681, 682, 683, 684, 685, 686, 687, 688, 689, 690, 691, 692, 693] (by decide +kernel) (by decide +kernel)
set_option maxRecDepth 20000 in
theorem gL_law_X5_thrown : GoodIn wsL_law (wsV RL 94 RX5 yX5_thrown wsX5_thrown) := goodIn_app (goodIn_of _ (by decide +kernel)) ggL_law_X5_thrown
set_option maxRecDepth 20000 in
theorem ggL_law_L_carry : GoodIn wsL_law wsL_carry := goodIn_ca (goodIn_ca (goodIn_r _ [129, 130, 76, 131, 132, 133, 2, 134, 135, 136, 83, 84, 137, 138, 139, 140, 14, 141, 86, 142, 143, 98, 91, 92, 93, 94, 705, 706, 707, 708, 709, 710, 711, 712, 662, 663, 664, 665, 666, 667] (by decide +kernel) (by decide +kernel)) (goodIn_sub (fun _ h => List.mem_append_right _ h) (by decide +kernel))) (goodIn_sub (fun _ h => List.mem_append_left _ (List.mem_append_right _ h)) (by decide +kernel))
set_option maxRecDepth 20000 in
theorem gL_law_L_carry : GoodIn wsL_law (va_wsS RL 98 yL_carry wsL_carry) := goodIn_app (goodIn_of _ (by decide +kernel)) ggL_law_L_carry
set_option maxRecDepth 20000 in
theorem ggL_law_X5_carry : GoodIn wsL_law wsX5_carry := goodIn_r _ [147, 52, 51, 148, 149, 150, 5, 151, 110, 111, 112, 113, 119, 120, 121, 122, 114, 115, 116, 117, 118, 668, 669, 670, 671, 672, 673, 674, 675, 676, 677, 678, 679, 680, 681, 682, 683, 684, 685, 686, 687, 688, 689, 690, 691, 692, 693] (by decide +kernel) (by decide +kernel)
set_option maxRecDepth 20000 in
theorem gL_law_X5_carry : GoodIn wsL_law (wsV RL 100 RX5 yX5_carry wsX5_carry) := goodIn_app (goodIn_of _ (by decide +kernel)) ggL_law_X5_carry
set_option maxRecDepth 20000 in
theorem ggL_law_L_placeOf : GoodIn wsL_law wsL_placeOf := goodIn_ca (goodIn_r _ [154, 130, 155, 156, 157, 2, 158, 137, 138, 139, 140, 135, 136, 14, 141, 86, 142, 143, 98, 705, 706, 707, 708, 709, 710, 711, 712, 662, 663, 664, 665, 666, 667] (by decide +kernel) (by decide +kernel)) (goodIn_sub (fun _ h => List.mem_append_right _ h) (by decide +kernel))
set_option maxRecDepth 20000 in
theorem gL_law_L_placeOf : GoodIn wsL_law (va_wsS RL 101 yL_placeOf wsL_placeOf) := goodIn_app (goodIn_of _ (by decide +kernel)) ggL_law_L_placeOf
set_option maxRecDepth 20000 in
theorem ggL_law_X5_placeOf : GoodIn wsL_law wsX5_placeOf := goodIn_r _ [162, 52, 51, 148, 149, 150, 5, 151, 110, 111, 112, 113, 163, 164, 165, 166, 118, 668, 669, 670, 671, 672, 673, 674, 675, 676, 677, 678, 679, 680, 681, 682, 683, 684, 685, 686, 687, 688, 689, 690, 691, 692, 693] (by decide +kernel) (by decide +kernel)
set_option maxRecDepth 20000 in
theorem gL_law_X5_placeOf : GoodIn wsL_law (wsV RL 104 RX5 yX5_placeOf wsX5_placeOf) := goodIn_app (goodIn_of _ (by decide +kernel)) ggL_law_X5_placeOf
set_option maxRecDepth 20000 in
theorem ggL_law_L_files : GoodIn wsL_law wsL_files := goodIn_ca (goodIn_r _ [169, 130, 170, 171, 172, 2, 173, 137, 138, 139, 140, 135, 136, 14, 705, 706, 707, 708, 709, 710, 711, 712, 662, 663, 664, 665, 666, 667] (by decide +kernel) (by decide +kernel)) (goodIn_sub (fun _ h => List.mem_append_right _ h) (by decide +kernel))
set_option maxRecDepth 20000 in
theorem gL_law_L_files : GoodIn wsL_law (va_wsS RL 105 yL_files wsL_files) := goodIn_app (goodIn_of _ (by decide +kernel)) ggL_law_L_files
set_option maxRecDepth 20000 in
theorem ggL_law_X5_files : GoodIn wsL_law wsX5_files := goodIn_r _ [177, 55, 148, 149, 150, 5, 151, 110, 111, 112, 113, 163, 164, 165, 166, 118, 668, 669, 670, 671, 672, 673, 674, 675, 676, 677, 678, 679, 680, 681, 682, 683, 684, 685, 686, 687, 688, 689, 690, 691, 692, 693] (by decide +kernel) (by decide +kernel)
set_option maxRecDepth 20000 in
theorem gL_law_X5_files : GoodIn wsL_law (wsV RL 107 RX5 yX5_files wsX5_files) := goodIn_app (goodIn_of _ (by decide +kernel)) ggL_law_X5_files
set_option maxRecDepth 20000 in
theorem ggL_law_L_start : GoodIn wsL_law wsL_start := goodIn_ca (goodIn_r _ [180, 130, 181, 182, 183, 2, 184, 137, 138, 139, 140, 135, 136, 14, 185, 186, 187, 188, 86, 189, 190, 101, 191, 192, 662, 663, 664, 665, 666, 667, 705, 706, 707, 708, 709, 710, 711, 712] (by decide +kernel) (by decide +kernel)) (goodIn_sub (fun _ h => List.mem_append_right _ h) (by decide +kernel))
set_option maxRecDepth 20000 in
theorem gL_law_L_start : GoodIn wsL_law (va_wsS RL 108 yL_start wsL_start) := goodIn_app (goodIn_of _ (by decide +kernel)) ggL_law_L_start
set_option maxRecDepth 20000 in
theorem ggL_law_X5_start : GoodIn wsL_law wsX5_start := goodIn_r _ [196, 56, 197, 198, 199, 5, 200, 55, 148, 149, 150, 151, 110, 111, 112, 113, 163, 164, 165, 166, 118, 668, 669, 670, 671, 672, 673, 674, 675, 676, 677, 678, 679, 680, 681, 682, 683, 684, 685, 686, 687, 688, 689, 690, 691, 692, 693] (by decide +kernel) (by decide +kernel)
set_option maxRecDepth 20000 in
theorem gL_law_X5_start : GoodIn wsL_law (wsV RL 110 RX5 yX5_start wsX5_start) := goodIn_app (goodIn_of _ (by decide +kernel)) ggL_law_X5_start
set_option maxRecDepth 20000 in
theorem ggL_law_L_along : GoodIn wsL_law wsL_along := goodIn_ca (goodIn_r _ [203, 130, 204, 205, 206, 2, 207, 135, 136, 137, 138, 139, 140, 14, 208, 86, 209, 210, 103, 104, 211, 212, 213, 214, 215, 216, 217, 218, 219, 220, 221, 662, 663, 664, 665, 666, 667, 705, 706, 707, 708, 709, 710, 711, 712] (by decide +kernel) (by decide +kernel)) (goodIn_sub (fun _ h => List.mem_append_right _ h) (by decide +kernel))
set_option maxRecDepth 20000 in
theorem gL_law_L_along : GoodIn wsL_law (va_wsS RL 111 yL_along wsL_along) := goodIn_app (goodIn_of _ (by decide +kernel)) ggL_law_L_along
set_option maxRecDepth 20000 in
theorem ggL_law_X5_along : GoodIn wsL_law wsX5_along := goodIn_r _ [225, 49, 50, 148, 149, 150, 5, 151, 110, 111, 112, 113, 163, 164, 165, 166, 118, 226, 227, 228, 229, 230, 231, 232, 233, 668, 669, 670, 671, 672, 673, 674, 675, 676, 677, 678, 679, 680, 681, 682, 683, 684, 685, 686, 687, 688, 689, 690, 691, 692, 693] (by decide +kernel) (by decide +kernel)
set_option maxRecDepth 20000 in
theorem gL_law_X5_along : GoodIn wsL_law (wsV RL 113 RX5 yX5_along wsX5_along) := goodIn_app (goodIn_of _ (by decide +kernel)) ggL_law_X5_along
set_option maxRecDepth 20000 in
theorem ggL_law_L_drive : GoodIn wsL_law wsL_drive := goodIn_ca (goodIn_ca (goodIn_r _ [236, 75, 76, 237, 238, 239, 2, 240, 81, 82, 83, 84, 18, 17, 16, 241, 242, 243, 244, 245, 11, 12, 246, 247, 248, 249, 250, 251, 252, 662, 663, 664, 665, 666, 667, 713, 714, 715, 716, 717, 718, 719] (by decide +kernel) (by decide +kernel)) (goodIn_sub (fun _ h => List.mem_append_left _ (List.mem_append_left _ (List.mem_append_right _ h))) (by decide +kernel))) (goodIn_sub (fun _ h => List.mem_append_left _ (List.mem_append_right _ h)) (by decide +kernel))
set_option maxRecDepth 20000 in
theorem gL_law_L_drive : GoodIn wsL_law (va_wsS RL 114 yL_drive wsL_drive) := goodIn_app (goodIn_of _ (by decide +kernel)) ggL_law_L_drive
set_option maxRecDepth 20000 in
theorem ggL_law_X5_drive : GoodIn wsL_law wsX5_drive := goodIn_r _ [256, 257, 58, 61, 111, 112, 5, 113, 114, 115, 116, 117, 118, 668, 669, 670, 671, 672, 673, 674, 675, 676, 677, 678, 679, 680, 681, 682, 683, 684, 685, 686, 687, 688, 689, 690, 691, 692, 693] (by decide +kernel) (by decide +kernel)
set_option maxRecDepth 20000 in
theorem gL_law_X5_drive : GoodIn wsL_law (wsV RL 116 RX5 yX5_drive wsX5_drive) := goodIn_app (goodIn_of _ (by decide +kernel)) ggL_law_X5_drive
set_option maxRecDepth 20000 in
theorem ggL_law_L_mount : GoodIn wsL_law wsL_mount := goodIn_ca (goodIn_ca (goodIn_r _ [260, 130, 76, 261, 262, 263, 2, 264, 83, 84, 265, 266, 267, 268, 135, 136, 17, 137, 138, 139, 140, 14, 141, 86, 142, 143, 98, 269, 242, 270, 271, 250, 272, 273, 216, 274, 275, 276, 277, 248, 713, 714, 715, 716, 717, 718, 719, 705, 706, 707, 708, 709, 710, 711, 712, 662, 663, 664, 665, 666, 667] (by decide +kernel) (by decide +kernel)) (goodIn_sub (fun _ h => List.mem_append_left _ (List.mem_append_right _ h)) (by decide +kernel))) (goodIn_sub (fun _ h => List.mem_append_right _ h) (by decide +kernel))
set_option maxRecDepth 20000 in
theorem gL_law_L_mount : GoodIn wsL_law (va_wsS RL 117 yL_mount wsL_mount) := goodIn_app (goodIn_of _ (by decide +kernel)) ggL_law_L_mount
set_option maxRecDepth 20000 in
theorem ggL_law_X5_mount : GoodIn wsL_law wsX5_mount := goodIn_r _ [281, 61, 52, 54, 62, 59, 282, 283, 284, 5, 285, 257, 111, 112, 113, 148, 149, 150, 151, 110, 114, 115, 116, 117, 118, 286, 287, 288, 289, 51, 290, 291, 292, 668, 669, 670, 671, 672, 673, 674, 675, 676, 677, 678, 679, 680, 681, 682, 683, 684, 685, 686, 687, 688, 689, 690, 691, 692, 693] (by decide +kernel) (by decide +kernel)
set_option maxRecDepth 20000 in
theorem gL_law_X5_mount : GoodIn wsL_law (wsV RL 119 RX5 yX5_mount wsX5_mount) := goodIn_app (goodIn_of _ (by decide +kernel)) ggL_law_X5_mount
set_option maxRecDepth 20000 in
theorem ggL_law_L_unmount : GoodIn wsL_law wsL_unmount := goodIn_ca (goodIn_ca (goodIn_r _ [295, 130, 76, 296, 297, 298, 2, 299, 265, 266, 267, 268, 135, 136, 17, 300, 301, 302, 83, 84, 303, 242, 304, 305, 272, 273, 216, 274, 251, 252, 211, 86, 212, 213, 104, 214, 215, 217, 218, 219, 220, 221, 103, 269, 270, 271, 250, 275, 276, 277, 248, 713, 714, 715, 716, 717, 718, 719, 705, 706, 707, 708, 709, 710, 711, 712, 662, 663, 664, 665, 666, 667] (by decide +kernel) (by decide +kernel)) (goodIn_sub (fun _ h => List.mem_append_right _ h) (by decide +kernel))) (goodIn_sub (fun _ h => List.mem_append_left _ (List.mem_append_right _ h)) (by decide +kernel))
set_option maxRecDepth 20000 in
theorem gL_law_L_unmount : GoodIn wsL_law (va_wsS RL 120 yL_unmount wsL_unmount) := goodIn_app (goodIn_of _ (by decide +kernel)) ggL_law_L_unmount
set_option maxRecDepth 20000 in
theorem ggL_law_X5_unmount : GoodIn wsL_law wsX5_unmount := goodIn_r _ [309, 62, 61, 59, 52, 282, 283, 284, 5, 285, 257, 111, 112, 113, 310, 311, 312, 313, 114, 115, 116, 117, 118, 314, 315, 316, 317, 49, 50, 58, 226, 227, 228, 229, 230, 231, 232, 233, 290, 291, 292, 286, 287, 288, 289, 51, 668, 669, 670, 671, 672, 673, 674, 675, 676, 677, 678, 679, 680, 681, 682, 683, 684, 685, 686, 687, 688, 689, 690, 691, 692, 693] (by decide +kernel) (by decide +kernel)
set_option maxRecDepth 20000 in
theorem gL_law_X5_unmount : GoodIn wsL_law (wsV RL 122 RX5 yX5_unmount wsX5_unmount) := goodIn_app (goodIn_of _ (by decide +kernel)) ggL_law_X5_unmount
set_option maxRecDepth 20000 in
theorem ggL_law_L_write : GoodIn wsL_law wsL_write := goodIn_ca (goodIn_ca (goodIn_ca (goodIn_r _ [320, 130, 75, 76, 321, 322, 323, 2, 324, 81, 82, 83, 84, 265, 266, 267, 268, 135, 136, 17, 300, 301, 302, 325, 326, 327, 328, 242, 329, 330, 249, 331, 86, 332, 333, 100, 334, 188, 189, 190, 101, 191, 192, 335, 208, 209, 210, 103, 104, 336, 337, 338, 339, 340, 341, 342, 343, 247, 344, 345, 346, 347, 348, 303, 304, 305, 272, 273, 216, 274, 251, 252, 211, 212, 213, 214, 215, 217, 218, 219, 220, 221, 349, 350, 351, 352, 275, 276, 277, 248, 662, 663, 664, 665, 666, 667, 713, 714, 715, 716, 717, 718, 719, 705, 706, 707, 708, 709, 710, 711, 712] (by decide +kernel) (by decide +kernel)) (goodIn_sub (fun _ h => List.mem_append_left _ (List.mem_append_left _ (List.mem_append_right _ h))) (by decide +kernel))) (goodIn_sub (fun _ h => List.mem_append_left _ (List.mem_append_right _ h)) (by decide +kernel))) (goodIn_sub (fun _ h => List.mem_append_right _ h) (by decide +kernel))
set_option maxRecDepth 20000 in
theorem gL_law_L_write : GoodIn wsL_law (va_wsS RL 123 yL_write wsL_write) := goodIn_app (goodIn_of _ (by decide +kernel)) ggL_law_L_write
set_option maxRecDepth 20000 in
theorem ggL_law_X5_write : GoodIn wsL_law wsX5_write := goodIn_r _ [356, 61, 55, 49, 50, 56, 57, 310, 311, 312, 5, 313, 282, 283, 284, 285, 257, 111, 112, 113, 357, 358, 359, 360, 60, 361, 362, 363, 364, 365, 366, 367, 368, 118, 369, 370, 371, 372, 62, 59, 314, 315, 316, 317, 58, 226, 227, 228, 229, 230, 231, 232, 233, 290, 291, 292, 668, 669, 670, 671, 672, 673, 674, 675, 676, 677, 678, 679, 680, 681, 682, 683, 684, 685, 686, 687, 688, 689, 690, 691, 692, 693] (by decide +kernel) (by decide +kernel)
set_option maxRecDepth 20000 in
theorem gL_law_X5_write : GoodIn wsL_law (wsV RL 125 RX5 yX5_write wsX5_write) := goodIn_app (goodIn_of _ (by decide +kernel)) ggL_law_X5_write
set_option maxRecDepth 20000 in
theorem ggL_law_L_read : GoodIn wsL_law wsL_read := goodIn_ca (goodIn_ca (goodIn_r _ [375, 130, 76, 376, 377, 378, 2, 379, 265, 266, 267, 268, 135, 136, 17, 300, 301, 302, 83, 84, 185, 186, 187, 325, 326, 327, 328, 242, 329, 330, 249, 341, 342, 343, 247, 344, 345, 346, 347, 188, 86, 189, 190, 101, 191, 192, 348, 303, 304, 305, 272, 273, 216, 274, 251, 252, 211, 212, 213, 104, 214, 215, 217, 218, 219, 220, 221, 103, 349, 350, 351, 352, 275, 276, 277, 248, 662, 663, 664, 665, 666, 667, 713, 714, 715, 716, 717, 718, 719, 705, 706, 707, 708, 709, 710, 711, 712] (by decide +kernel) (by decide +kernel)) (goodIn_sub (fun _ h => List.mem_append_right _ h) (by decide +kernel))) (goodIn_sub (fun _ h => List.mem_append_left _ (List.mem_append_right _ h)) (by decide +kernel))
set_option maxRecDepth 20000 in
theorem gL_law_L_read : GoodIn wsL_law (va_wsS RL 126 yL_read wsL_read) := goodIn_app (goodIn_of _ (by decide +kernel)) ggL_law_L_read
set_option maxRecDepth 20000 in
theorem ggL_law_X5_read : GoodIn wsL_law wsX5_read := goodIn_r _ [383, 61, 56, 57, 310, 311, 312, 5, 313, 282, 283, 284, 285, 257, 111, 112, 113, 197, 198, 199, 200, 55, 148, 149, 150, 151, 110, 357, 358, 359, 360, 60, 114, 115, 116, 117, 118, 369, 370, 371, 372, 62, 59, 314, 315, 316, 317, 49, 50, 58, 226, 227, 228, 229, 230, 231, 232, 233, 290, 291, 292, 668, 669, 670, 671, 672, 673, 674, 675, 676, 677, 678, 679, 680, 681, 682, 683, 684, 685, 686, 687, 688, 689, 690, 691, 692, 693] (by decide +kernel) (by decide +kernel)
set_option maxRecDepth 20000 in
theorem gL_law_X5_read : GoodIn wsL_law (wsV RL 128 RX5 yX5_read wsX5_read) := goodIn_app (goodIn_of _ (by decide +kernel)) ggL_law_X5_read
set_option maxRecDepth 20000 in
theorem ggL_law_L_clean : GoodIn wsL_law wsL_clean := goodIn_ca (goodIn_ca (goodIn_r _ [386, 130, 76, 387, 388, 389, 2, 390, 83, 84, 265, 266, 267, 268, 135, 136, 17, 275, 242, 276, 277, 248, 713, 714, 715, 716, 717, 718, 719, 662, 663, 664, 665, 666, 667] (by decide +kernel) (by decide +kernel)) (goodIn_sub (fun _ h => List.mem_append_left _ (List.mem_append_right _ h)) (by decide +kernel))) (goodIn_sub (fun _ h => List.mem_append_right _ h) (by decide +kernel))
set_option maxRecDepth 20000 in
theorem gL_law_L_clean : GoodIn wsL_law (va_wsS RL 129 yL_clean wsL_clean) := goodIn_app (goodIn_of _ (by decide +kernel)) ggL_law_L_clean
set_option maxRecDepth 20000 in
theorem ggL_law_X5_clean : GoodIn wsL_law wsX5_clean := goodIn_r _ [394, 60, 59, 282, 283, 284, 5, 285, 257, 111, 112, 113, 310, 311, 312, 313, 61, 114, 115, 116, 117, 118, 668, 669, 670, 671, 672, 673, 674, 675, 676, 677, 678, 679, 680, 681, 682, 683, 684, 685, 686, 687, 688, 689, 690, 691, 692, 693] (by decide +kernel) (by decide +kernel)
set_option maxRecDepth 20000 in
theorem gL_law_X5_clean : GoodIn wsL_law (wsV RL 131 RX5 yX5_clean wsX5_clean) := goodIn_app (goodIn_of _ (by decide +kernel)) ggL_law_X5_clean
set_option maxRecDepth 20000 in
theorem ggL_law_L_clock : GoodIn wsL_law wsL_clock := goodIn_ca (goodIn_r _ [397, 130, 398, 399, 400, 2, 401, 265, 266, 267, 268, 135, 136, 17, 713, 714, 715, 716, 717, 718, 719, 662, 663, 664, 665, 666, 667] (by decide +kernel) (by decide +kernel)) (goodIn_sub (fun _ h => List.mem_append_right _ h) (by decide +kernel))
set_option maxRecDepth 20000 in
theorem gL_law_L_clock : GoodIn wsL_law (va_wsS RL 132 yL_clock wsL_clock) := goodIn_app (goodIn_of _ (by decide +kernel)) ggL_law_L_clock
set_option maxRecDepth 20000 in
theorem ggL_law_X5_clock : GoodIn wsL_law wsX5_clock := goodIn_r _ [405, 59, 282, 283, 284, 5, 285, 257, 111, 112, 113, 163, 164, 165, 166, 118, 668, 669, 670, 671, 672, 673, 674, 675, 676, 677, 678, 679, 680, 681, 682, 683, 684, 685, 686, 687, 688, 689, 690, 691, 692, 693] (by decide +kernel) (by decide +kernel)
set_option maxRecDepth 20000 in
theorem gL_law_X5_clock : GoodIn wsL_law (wsV RL 134 RX5 yX5_clock wsX5_clock) := goodIn_app (goodIn_of _ (by decide +kernel)) ggL_law_X5_clock
set_option maxRecDepth 20000 in
theorem ggL_law_L_stands : GoodIn wsL_law wsL_stands := goodIn_ca (goodIn_r _ [408, 130, 409, 410, 411, 2, 412, 265, 266, 267, 268, 135, 136, 17, 713, 714, 715, 716, 717, 718, 719, 662, 663, 664, 665, 666, 667] (by decide +kernel) (by decide +kernel)) (goodIn_sub (fun _ h => List.mem_append_right _ h) (by decide +kernel))
set_option maxRecDepth 20000 in
theorem gL_law_L_stands : GoodIn wsL_law (va_wsS RL 135 yL_stands wsL_stands) := goodIn_app (goodIn_of _ (by decide +kernel)) ggL_law_L_stands
set_option maxRecDepth 20000 in
theorem ggL_law_X5_stands : GoodIn wsL_law wsX5_stands := goodIn_r _ [416, 61, 62, 282, 283, 284, 5, 285, 257, 111, 112, 113, 163, 164, 165, 166, 118, 668, 669, 670, 671, 672, 673, 674, 675, 676, 677, 678, 679, 680, 681, 682, 683, 684, 685, 686, 687, 688, 689, 690, 691, 692, 693] (by decide +kernel) (by decide +kernel)
set_option maxRecDepth 20000 in
theorem gL_law_X5_stands : GoodIn wsL_law (wsV RL 137 RX5 yX5_stands wsX5_stands) := goodIn_app (goodIn_of _ (by decide +kernel)) ggL_law_X5_stands
set_option maxRecDepth 20000 in
theorem ggL_law_L_job : GoodIn wsL_law wsL_job := goodIn_ca (goodIn_ca (goodIn_ca (goodIn_r _ [419, 130, 75, 76, 420, 421, 422, 2, 423, 81, 82, 83, 84, 424, 22, 137, 138, 139, 140, 135, 136, 14, 185, 186, 187, 425, 21, 426, 427, 30, 33, 191, 192, 428, 429, 430, 34, 35, 339, 340, 662, 663, 664, 665, 666, 667, 694, 695, 696, 697, 698, 705, 706, 707, 708, 709, 710, 711, 712] (by decide +kernel) (by decide +kernel)) (goodIn_sub (fun _ h => List.mem_append_left _ (List.mem_append_left _ (List.mem_append_right _ h))) (by decide +kernel))) (goodIn_sub (fun _ h => List.mem_append_left _ (List.mem_append_right _ h)) (by decide +kernel))) (goodIn_sub (fun _ h => List.mem_append_right _ h) (by decide +kernel))
set_option maxRecDepth 20000 in
theorem gL_law_L_job : GoodIn wsL_law (va_wsS RL 138 yL_job wsL_job) := goodIn_app (goodIn_of _ (by decide +kernel)) ggL_law_L_job
