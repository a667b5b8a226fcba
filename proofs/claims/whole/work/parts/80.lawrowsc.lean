set_option maxRecDepth 20000 in
theorem ggL_law_X5_job : GoodIn wsL_law wsX5_job := goodIn_r _ [434, 435, 436, 63, 64, 65, 197, 198, 199, 5, 200, 55, 148, 149, 150, 151, 110, 111, 112, 113, 437, 438, 439, 440, 441, 442, 443, 444, 66, 365, 366, 367, 368, 118, 668, 669, 670, 671, 672, 673, 674, 675, 676, 677, 678, 679, 680, 681, 682, 683, 684, 685, 686, 687, 688, 689, 690, 691, 692, 693] (by decide +kernel) (by decide +kernel)
set_option maxRecDepth 20000 in
theorem gL_law_X5_job : GoodIn wsL_law (wsV RL 141 RX5 yX5_job wsX5_job) := goodIn_app (goodIn_of _ (by decide +kernel)) ggL_law_X5_job
set_option maxRecDepth 20000 in
theorem ggL_law_L_waiting : GoodIn wsL_law wsL_waiting := goodIn_ca (goodIn_r _ [447, 130, 448, 449, 450, 2, 451, 22, 137, 138, 139, 140, 135, 136, 14, 425, 21, 426, 427, 30, 33, 191, 192, 662, 663, 664, 665, 666, 667, 705, 706, 707, 708, 709, 710, 711, 712, 694, 695, 696, 697, 698] (by decide +kernel) (by decide +kernel)) (goodIn_sub (fun _ h => List.mem_append_right _ h) (by decide +kernel))
set_option maxRecDepth 20000 in
theorem gL_law_L_waiting : GoodIn wsL_law (va_wsS RL 142 yL_waiting wsL_waiting) := goodIn_app (goodIn_of _ (by decide +kernel)) ggL_law_L_waiting
set_option maxRecDepth 20000 in
theorem ggL_law_X5_waiting : GoodIn wsL_law wsX5_waiting := goodIn_r _ [455, 148, 149, 150, 5, 151, 110, 111, 112, 113, 163, 164, 165, 166, 118, 437, 438, 439, 440, 436, 441, 442, 443, 444, 66, 63, 668, 669, 670, 671, 672, 673, 674, 675, 676, 677, 678, 679, 680, 681, 682, 683, 684, 685, 686, 687, 688, 689, 690, 691, 692, 693] (by decide +kernel) (by decide +kernel)
set_option maxRecDepth 20000 in
theorem gL_law_X5_waiting : GoodIn wsL_law (wsV RL 144 RX5 yX5_waiting wsX5_waiting) := goodIn_app (goodIn_of _ (by decide +kernel)) ggL_law_X5_waiting
set_option maxRecDepth 20000 in
theorem ggL_law_X4_next : GoodIn wsL_law wsX4_next := goodIn_r _ [459, 14, 22, 141, 86, 142, 143, 98, 425, 21, 426, 427, 30, 33, 191, 2, 192, 460, 461, 462, 463, 35, 464, 215, 216, 217, 662, 663, 664, 665, 666, 667, 705, 706, 707, 708, 709, 710, 711, 712, 694, 695, 696, 697, 698] (by decide +kernel) (by decide +kernel)
set_option maxRecDepth 20000 in
theorem gL_law_X4_next : GoodIn wsL_law (wsV RL 145 RX4 yX4_next wsX4_next) := goodIn_app (goodIn_of _ (by decide +kernel)) ggL_law_X4_next
set_option maxRecDepth 20000 in
theorem ggL_law_X5_next : GoodIn wsL_law wsX5_next := goodIn_r _ [468, 118, 110, 52, 54, 437, 438, 439, 5, 440, 436, 441, 442, 443, 444, 66, 63, 469, 470, 471, 472, 473, 65, 668, 669, 670, 671, 672, 673, 674, 675, 676, 677, 678, 679, 680, 681, 682, 683, 684, 685, 686, 687, 688, 689, 690, 691, 692, 693] (by decide +kernel) (by decide +kernel)
set_option maxRecDepth 20000 in
theorem gL_law_X5_next : GoodIn wsL_law (wsV RL 148 RX5 yX5_next wsX5_next) := goodIn_app (goodIn_of _ (by decide +kernel)) ggL_law_X5_next
set_option maxRecDepth 20000 in
theorem ggL_law_L_bestTime : GoodIn wsL_law wsL_bestTime := goodIn_ca (goodIn_ca (goodIn_r _ [476, 130, 76, 477, 478, 479, 2, 480, 26, 265, 266, 267, 268, 135, 136, 17, 481, 482, 483, 484, 22, 300, 301, 302, 83, 84, 485, 25, 486, 487, 40, 39, 41, 488, 21, 489, 490, 30, 33, 464, 215, 216, 217, 191, 192, 339, 340, 491, 492, 493, 34, 345, 242, 346, 347, 188, 86, 189, 190, 101, 348, 303, 304, 305, 272, 273, 274, 251, 252, 211, 212, 213, 104, 214, 218, 219, 220, 221, 103, 349, 350, 351, 494, 495, 496, 42, 43, 497, 498, 499, 500, 501, 502, 503, 504, 505, 506, 507, 508, 509, 510, 511, 512, 513, 514, 515, 662, 663, 664, 665, 666, 667, 699, 700, 701, 702, 703, 704, 713, 714, 715, 716, 717, 718, 719, 705, 706, 707, 708, 709, 710, 711, 712, 694, 695, 696, 697, 698] (by decide +kernel) (by decide +kernel)) (goodIn_sub (fun _ h => List.mem_append_right _ h) (by decide +kernel))) (goodIn_sub (fun _ h => List.mem_append_left _ (List.mem_append_right _ h)) (by decide +kernel))
set_option maxRecDepth 20000 in
theorem gL_law_L_bestTime : GoodIn wsL_law (va_wsS RL 149 yL_bestTime wsL_bestTime) := goodIn_app (goodIn_of _ (by decide +kernel)) ggL_law_L_bestTime
set_option maxRecDepth 20000 in
theorem ggL_law_X5_bestTime : GoodIn wsL_law wsX5_bestTime := goodIn_r _ [519, 282, 283, 284, 5, 285, 257, 111, 112, 113, 310, 311, 312, 313, 61, 114, 115, 116, 117, 118, 520, 521, 522, 523, 524, 525, 69, 68, 526, 527, 528, 529, 436, 67, 441, 442, 443, 444, 66, 63, 530, 531, 532, 533, 62, 534, 535, 536, 537, 56, 64, 538, 539, 540, 541, 57, 314, 315, 316, 317, 49, 50, 58, 226, 227, 228, 229, 230, 231, 232, 233, 290, 291, 292, 668, 669, 670, 671, 672, 673, 674, 675, 676, 677, 678, 679, 680, 681, 682, 683, 684, 685, 686, 687, 688, 689, 690, 691, 692, 693] (by decide +kernel) (by decide +kernel)
set_option maxRecDepth 20000 in
theorem gL_law_X5_bestTime : GoodIn wsL_law (wsV RL 151 RX5 yX5_bestTime wsX5_bestTime) := goodIn_app (goodIn_of _ (by decide +kernel)) ggL_law_X5_bestTime
set_option maxRecDepth 20000 in
theorem ggL_law_L_bestJob : GoodIn wsL_law wsL_bestJob := goodIn_ca (goodIn_ca (goodIn_r _ [544, 130, 76, 545, 546, 547, 2, 548, 135, 136, 26, 265, 266, 267, 268, 17, 481, 482, 483, 484, 22, 300, 301, 302, 83, 84, 485, 25, 486, 487, 40, 39, 41, 488, 21, 489, 490, 30, 33, 464, 215, 216, 217, 191, 192, 339, 340, 491, 492, 493, 34, 345, 242, 346, 347, 188, 86, 189, 190, 101, 348, 303, 304, 305, 272, 273, 274, 251, 252, 211, 212, 213, 104, 214, 218, 219, 220, 221, 103, 349, 350, 351, 494, 495, 496, 42, 43, 497, 498, 499, 500, 501, 502, 503, 504, 505, 506, 507, 508, 509, 510, 511, 512, 549, 550, 551, 662, 663, 664, 665, 666, 667, 699, 700, 701, 702, 703, 704, 713, 714, 715, 716, 717, 718, 719, 705, 706, 707, 708, 709, 710, 711, 712, 694, 695, 696, 697, 698] (by decide +kernel) (by decide +kernel)) (goodIn_sub (fun _ h => List.mem_append_right _ h) (by decide +kernel))) (goodIn_sub (fun _ h => List.mem_append_left _ (List.mem_append_right _ h)) (by decide +kernel))
set_option maxRecDepth 20000 in
theorem gL_law_L_bestJob : GoodIn wsL_law (va_wsS RL 152 yL_bestJob wsL_bestJob) := goodIn_app (goodIn_of _ (by decide +kernel)) ggL_law_L_bestJob
set_option maxRecDepth 20000 in
theorem ggL_law_X5_bestJob : GoodIn wsL_law wsX5_bestJob := goodIn_r _ [555, 524, 67, 68, 282, 283, 284, 5, 285, 257, 111, 112, 113, 310, 311, 312, 313, 61, 114, 115, 116, 117, 118, 520, 521, 522, 523, 525, 69, 526, 527, 528, 529, 436, 441, 442, 443, 444, 66, 63, 530, 531, 532, 533, 62, 534, 535, 536, 537, 56, 64, 538, 539, 540, 541, 57, 314, 315, 316, 317, 49, 50, 58, 226, 227, 228, 229, 230, 231, 232, 233, 290, 291, 292, 163, 164, 165, 166, 668, 669, 670, 671, 672, 673, 674, 675, 676, 677, 678, 679, 680, 681, 682, 683, 684, 685, 686, 687, 688, 689, 690, 691, 692, 693] (by decide +kernel) (by decide +kernel)
set_option maxRecDepth 20000 in
theorem gL_law_X5_bestJob : GoodIn wsL_law (wsV RL 154 RX5 yX5_bestJob wsX5_bestJob) := goodIn_app (goodIn_of _ (by decide +kernel)) ggL_law_X5_bestJob
set_option maxRecDepth 20000 in
theorem ggL_law_L_insertedTime : GoodIn wsL_law wsL_insertedTime := goodIn_ca (goodIn_ca (goodIn_r _ [558, 130, 76, 559, 560, 561, 2, 562, 26, 265, 266, 267, 268, 135, 136, 17, 481, 482, 483, 484, 22, 300, 301, 302, 83, 84, 485, 25, 486, 487, 40, 39, 41, 488, 21, 489, 490, 30, 33, 464, 215, 216, 217, 191, 192, 339, 340, 491, 492, 493, 34, 345, 242, 346, 347, 188, 86, 189, 190, 101, 348, 303, 304, 305, 272, 273, 274, 251, 252, 211, 212, 213, 104, 214, 218, 219, 220, 221, 103, 349, 350, 351, 563, 564, 565, 44, 566, 567, 568, 569, 570, 513, 514, 515, 509, 510, 511, 512, 571, 572, 573, 574, 662, 663, 664, 665, 666, 667, 713, 714, 715, 716, 717, 718, 719, 705, 706, 707, 708, 709, 710, 711, 712, 699, 700, 701, 702, 703, 704, 694, 695, 696, 697, 698] (by decide +kernel) (by decide +kernel)) (goodIn_sub (fun _ h => List.mem_append_right _ h) (by decide +kernel))) (goodIn_sub (fun _ h => List.mem_append_left _ (List.mem_append_right _ h)) (by decide +kernel))
set_option maxRecDepth 20000 in
theorem gL_law_L_insertedTime : GoodIn wsL_law (va_wsS RL 155 yL_insertedTime wsL_insertedTime) := goodIn_app (goodIn_of _ (by decide +kernel)) ggL_law_L_insertedTime
set_option maxRecDepth 20000 in
theorem ggL_law_X5_insertedTime : GoodIn wsL_law wsX5_insertedTime := goodIn_r _ [578, 524, 70, 282, 283, 284, 5, 285, 257, 111, 112, 113, 310, 311, 312, 313, 61, 114, 115, 116, 117, 118, 526, 527, 528, 529, 436, 67, 441, 442, 443, 444, 66, 63, 579, 580, 581, 582, 530, 531, 532, 533, 62, 534, 535, 536, 537, 56, 64, 538, 539, 540, 541, 57, 314, 315, 316, 317, 49, 50, 58, 226, 227, 228, 229, 230, 231, 232, 233, 290, 291, 292, 668, 669, 670, 671, 672, 673, 674, 675, 676, 677, 678, 679, 680, 681, 682, 683, 684, 685, 686, 687, 688, 689, 690, 691, 692, 693] (by decide +kernel) (by decide +kernel)
set_option maxRecDepth 20000 in
theorem gL_law_X5_insertedTime : GoodIn wsL_law (wsV RL 157 RX5 yX5_insertedTime wsX5_insertedTime) := goodIn_app (goodIn_of _ (by decide +kernel)) ggL_law_X5_insertedTime
set_option maxRecDepth 20000 in
theorem ggL_law_L_triedTime : GoodIn wsL_law wsL_triedTime := goodIn_ca (goodIn_ca (goodIn_r _ [585, 130, 76, 586, 587, 588, 2, 589, 26, 265, 266, 267, 268, 135, 136, 17, 481, 482, 483, 484, 22, 300, 301, 302, 83, 84, 485, 25, 486, 487, 40, 39, 41, 488, 21, 489, 490, 30, 33, 464, 215, 216, 217, 191, 192, 339, 340, 491, 492, 493, 34, 345, 242, 346, 347, 188, 86, 189, 190, 101, 348, 303, 304, 305, 272, 273, 274, 251, 252, 211, 212, 213, 104, 214, 218, 219, 220, 221, 103, 349, 350, 351, 590, 591, 592, 44, 593, 570, 513, 514, 515, 509, 510, 511, 512, 594, 595, 596, 597, 571, 572, 573, 574, 662, 663, 664, 665, 666, 667, 713, 714, 715, 716, 717, 718, 719, 705, 706, 707, 708, 709, 710, 711, 712, 699, 700, 701, 702, 703, 704, 694, 695, 696, 697, 698] (by decide +kernel) (by decide +kernel)) (goodIn_sub (fun _ h => List.mem_append_right _ h) (by decide +kernel))) (goodIn_sub (fun _ h => List.mem_append_left _ (List.mem_append_right _ h)) (by decide +kernel))
set_option maxRecDepth 20000 in
theorem gL_law_L_triedTime : GoodIn wsL_law (va_wsS RL 158 yL_triedTime wsL_triedTime) := goodIn_app (goodIn_of _ (by decide +kernel)) ggL_law_L_triedTime
set_option maxRecDepth 20000 in
theorem ggL_law_X5_triedTime : GoodIn wsL_law wsX5_triedTime := goodIn_r _ [601, 602, 517, 518, 5, 519, 282, 283, 284, 285, 257, 111, 112, 113, 310, 311, 312, 313, 61, 114, 115, 116, 117, 118, 520, 521, 522, 523, 524, 525, 69, 68, 526, 527, 528, 529, 436, 67, 441, 442, 443, 444, 66, 63, 530, 531, 532, 533, 62, 534, 535, 536, 537, 56, 64, 538, 539, 540, 541, 57, 314, 315, 316, 317, 49, 50, 58, 226, 227, 228, 229, 230, 231, 232, 233, 290, 291, 292, 668, 669, 670, 671, 672, 673, 674, 675, 676, 677, 678, 679, 680, 681, 682, 683, 684, 685, 686, 687, 688, 689, 690, 691, 692, 693] (by decide +kernel) (by decide +kernel)
set_option maxRecDepth 20000 in
theorem gL_law_X5_triedTime : GoodIn wsL_law (wsV RL 160 RX5 yX5_triedTime wsX5_triedTime) := goodIn_app (goodIn_of _ (by decide +kernel)) ggL_law_X5_triedTime
set_option maxRecDepth 20000 in
theorem ggL_law_L_work : GoodIn wsL_law wsL_work := goodIn_ca (goodIn_ca (goodIn_r _ [605, 130, 76, 606, 607, 608, 2, 609, 26, 22, 265, 266, 267, 268, 135, 136, 17, 300, 301, 302, 83, 84, 325, 326, 327, 328, 242, 329, 330, 249, 481, 482, 483, 484, 485, 25, 486, 487, 40, 39, 41, 488, 21, 489, 490, 30, 33, 464, 215, 216, 217, 191, 192, 339, 340, 491, 492, 493, 34, 345, 346, 347, 188, 86, 189, 190, 101, 348, 303, 304, 305, 272, 273, 274, 251, 252, 211, 212, 213, 104, 214, 218, 219, 220, 221, 103, 349, 350, 351, 494, 495, 496, 42, 43, 497, 498, 499, 500, 501, 502, 503, 504, 505, 506, 507, 508, 509, 510, 511, 512, 549, 550, 551, 341, 342, 343, 247, 344, 352, 275, 276, 277, 248, 610, 611, 612, 31, 613, 614, 615, 35, 662, 663, 664, 665, 666, 667, 699, 700, 701, 702, 703, 704, 713, 714, 715, 716, 717, 718, 719, 705, 706, 707, 708, 709, 710, 711, 712, 694, 695, 696, 697, 698] (by decide +kernel) (by decide +kernel)) (goodIn_sub (fun _ h => List.mem_append_right _ h) (by decide +kernel))) (goodIn_sub (fun _ h => List.mem_append_left _ (List.mem_append_right _ h)) (by decide +kernel))
set_option maxRecDepth 20000 in
theorem gL_law_L_work : GoodIn wsL_law (va_wsS RL 161 yL_work wsL_work) := goodIn_app (goodIn_of _ (by decide +kernel)) ggL_law_L_work
set_option maxRecDepth 20000 in
theorem ggL_law_X5_work : GoodIn wsL_law wsX5_work := goodIn_r _ [619, 524, 68, 67, 66, 59, 65, 310, 311, 312, 5, 313, 61, 282, 283, 284, 285, 257, 111, 112, 113, 357, 358, 359, 360, 60, 114, 115, 116, 117, 118, 520, 521, 522, 523, 525, 69, 526, 527, 528, 529, 436, 441, 442, 443, 444, 63, 530, 531, 532, 533, 62, 534, 535, 536, 537, 56, 64, 538, 539, 540, 541, 57, 314, 315, 316, 317, 49, 50, 58, 226, 227, 228, 229, 230, 231, 232, 233, 290, 291, 292, 369, 370, 371, 372, 668, 669, 670, 671, 672, 673, 674, 675, 676, 677, 678, 679, 680, 681, 682, 683, 684, 685, 686, 687, 688, 689, 690, 691, 692, 693] (by decide +kernel) (by decide +kernel)
set_option maxRecDepth 20000 in
theorem gL_law_X5_work : GoodIn wsL_law (wsV RL 163 RX5 yX5_work wsX5_work) := goodIn_app (goodIn_of _ (by decide +kernel)) ggL_law_X5_work
set_option maxRecDepth 20000 in
theorem ggL_law_X4_done : GoodIn wsL_law wsX4_done := goodIn_r _ [623, 22, 662, 663, 664, 665, 666, 667, 694, 695, 696, 697, 698] (by decide +kernel) (by decide +kernel)
set_option maxRecDepth 20000 in
theorem gL_law_X4_done : GoodIn wsL_law (wsV RL 164 RX4 yX4_done wsX4_done) := goodIn_app (goodIn_of _ (by decide +kernel)) ggL_law_X4_done
set_option maxRecDepth 20000 in
theorem ggL_law_X5_done : GoodIn wsL_law wsX5_done := goodIn_r _ [627, 118, 436, 66, 668, 669, 670, 671, 672, 673, 674, 675, 676, 677, 678, 679, 680, 681, 682, 683, 684, 685, 686, 687, 688, 689, 690, 691, 692, 693] (by decide +kernel) (by decide +kernel)
set_option maxRecDepth 20000 in
theorem gL_law_X5_done : GoodIn wsL_law (wsV RL 167 RX5 yX5_done wsX5_done) := goodIn_app (goodIn_of _ (by decide +kernel)) ggL_law_X5_done
set_option maxRecDepth 20000 in
theorem ggL_law_L_lose : GoodIn wsL_law wsL_lose := goodIn_ca (goodIn_ca (goodIn_r _ [630, 130, 76, 631, 632, 633, 2, 634, 83, 84, 137, 138, 139, 140, 135, 136, 14, 141, 86, 142, 143, 98, 635, 636, 637, 638, 705, 706, 707, 708, 709, 710, 711, 712, 662, 663, 664, 665, 666, 667] (by decide +kernel) (by decide +kernel)) (goodIn_sub (fun _ h => List.mem_append_left _ (List.mem_append_right _ h)) (by decide +kernel))) (goodIn_sub (fun _ h => List.mem_append_right _ h) (by decide +kernel))
set_option maxRecDepth 20000 in
theorem gL_law_L_lose : GoodIn wsL_law (va_wsS RL 168 yL_lose wsL_lose) := goodIn_app (goodIn_of _ (by decide +kernel)) ggL_law_L_lose
set_option maxRecDepth 20000 in
theorem ggL_law_X5_lose : GoodIn wsL_law wsX5_lose := goodIn_r _ [642, 52, 54, 148, 149, 150, 5, 151, 110, 111, 112, 113, 114, 115, 116, 117, 118, 643, 644, 645, 646, 668, 669, 670, 671, 672, 673, 674, 675, 676, 677, 678, 679, 680, 681, 682, 683, 684, 685, 686, 687, 688, 689, 690, 691, 692, 693] (by decide +kernel) (by decide +kernel)
set_option maxRecDepth 20000 in
theorem gL_law_X5_lose : GoodIn wsL_law (wsV RL 170 RX5 yX5_lose wsX5_lose) := goodIn_app (goodIn_of _ (by decide +kernel)) ggL_law_X5_lose
set_option maxRecDepth 20000 in
theorem ggL_law_X4_inventory : GoodIn wsL_law wsX4_inventory := goodIn_r _ [650, 14, 635, 636, 637, 2, 638, 651, 652, 653, 654, 655, 656, 216, 657, 141, 86, 142, 143, 98, 662, 663, 664, 665, 666, 667, 705, 706, 707, 708, 709, 710, 711, 712] (by decide +kernel) (by decide +kernel)
set_option maxRecDepth 20000 in
theorem gL_law_X4_inventory : GoodIn wsL_law (wsV RL 171 RX4 yX4_inventory wsX4_inventory) := goodIn_app (goodIn_of _ (by decide +kernel)) ggL_law_X4_inventory
set_option maxRecDepth 20000 in
theorem ggL_law_X5_inventory : GoodIn wsL_law wsX5_inventory := goodIn_r _ [661, 118, 110, 52, 51, 54, 643, 644, 645, 5, 646, 668, 669, 670, 671, 672, 673, 674, 675, 676, 677, 678, 679, 680, 681, 682, 683, 684, 685, 686, 687, 688, 689, 690, 691, 692, 693] (by decide +kernel) (by decide +kernel)
set_option maxRecDepth 20000 in
theorem gL_law_X5_inventory : GoodIn wsL_law (wsV RL 174 RX5 yX5_inventory wsX5_inventory) := goodIn_app (goodIn_of _ (by decide +kernel)) ggL_law_X5_inventory

