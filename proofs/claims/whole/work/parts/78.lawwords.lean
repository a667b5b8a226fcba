theorem in_pos {big ws : List Cond} (ps : List Nat) (hp : ws = ps.filterMap (fun i => big[i]?)) : ∀ w ∈ ws, w ∈ big := by
  intro w hw
  rw [hp] at hw
  obtain ⟨i, -, hi⟩ := List.mem_filterMap.mp hw
  exact List.mem_of_getElem? hi
set_option maxRecDepth 20000 in
theorem in_wsL_law0_r1 : ∀ w ∈ wsL_law0_r1, w ∈ lw_tbl := in_pos [81, 82, 68, 727, 728, 71, 1027, 83, 84, 85, 86, 87, 88, 89, 145, 146, 91, 147, 148, 93, 94, 69, 149, 118] (by decide +kernel)
set_option maxRecDepth 20000 in
theorem in_wsL_law0_r2 : ∀ w ∈ wsL_law0_r2, w ∈ lw_tbl := in_pos [119, 70, 150, 96, 97, 98, 99, 101, 117, 103, 104, 105, 121, 122, 123, 124, 126, 127, 128, 129, 131, 729, 730, 731] (by decide +kernel)
set_option maxRecDepth 20000 in
theorem in_wsL_law0_r3 : ∀ w ∈ wsL_law0_r3, w ∈ lw_tbl := in_pos [732, 734, 735, 736, 737, 812, 738, 739, 740, 741, 743, 744, 745, 746, 747, 749, 750, 751, 752, 754, 755, 756, 757, 207] (by decide +kernel)
set_option maxRecDepth 20000 in
theorem in_wsL_law0_r4 : ∀ w ∈ wsL_law0_r4, w ∈ lw_tbl := in_pos [208, 67, 209, 210, 211, 212, 213, 214, 215, 216, 75, 285, 76, 171, 77, 301, 303, 6, 304, 305, 307, 7, 308, 310] (by decide +kernel)
set_option maxRecDepth 20000 in
theorem in_wsL_law0_r5 : ∀ w ∈ wsL_law0_r5, w ∈ lw_tbl := in_pos [311, 312, 320, 322, 324, 326, 313, 316, 317, 318, 817, 818, 819, 820, 733, 821, 822, 823, 824, 826, 42, 827, 758, 828] (by decide +kernel)
set_option maxRecDepth 20000 in
theorem in_wsL_law0_r6 : ∀ w ∈ wsL_law0_r6, w ∈ lw_tbl := in_pos [830, 43, 831, 813, 814, 815, 816, 344, 345, 346, 347, 348, 349, 350, 351, 356, 78, 352, 354, 8, 355, 170, 0, 172] (by decide +kernel)
set_option maxRecDepth 20000 in
theorem in_wsL_law0_r7 : ∀ w ∈ wsL_law0_r7, w ∈ lw_tbl := in_pos [832, 833, 834, 835, 836, 838, 44, 839, 374, 375, 376, 377, 378, 379, 380, 840, 841, 842, 843, 844, 846, 45, 847, 381] (by decide +kernel)
set_option maxRecDepth 20000 in
theorem in_wsL_law0_r8 : ∀ w ∈ wsL_law0_r8, w ∈ lw_tbl := in_pos [382, 383, 384, 385, 386, 387, 848, 849, 850, 851, 388, 389, 390, 391, 392, 393, 394, 395, 396, 397, 401, 9, 402, 178] (by decide +kernel)
set_option maxRecDepth 20000 in
theorem in_wsL_law0_r9 : ∀ w ∈ wsL_law0_r9, w ∈ lw_tbl := in_pos [179, 852, 853, 854, 855, 856, 858, 46, 859, 404, 405, 406, 407, 408, 409, 410, 413, 10, 414, 418, 11, 419, 424, 186] (by decide +kernel)
set_option maxRecDepth 20000 in
theorem in_wsL_law0_r10 : ∀ w ∈ wsL_law0_r10, w ∈ lw_tbl := in_pos [79, 187, 420, 422, 12, 423, 860, 861, 862, 863, 864, 866, 47, 867, 868, 870, 48, 871, 425, 426, 427, 428, 429, 430] (by decide +kernel)
set_option maxRecDepth 20000 in
theorem in_wsL_law0_r11 : ∀ w ∈ wsL_law0_r11, w ∈ lw_tbl := in_pos [431, 434, 80, 436, 437, 438, 443, 445, 448, 450, 439, 441, 442, 872, 873, 874, 875, 742, 467, 468, 469, 470, 471, 472] (by decide +kernel)
set_option maxRecDepth 20000 in
theorem in_wsL_law0_r12 : ∀ w ∈ wsL_law0_r12, w ∈ lw_tbl := in_pos [473, 474, 476, 13, 477, 482, 14, 483, 484, 485, 486, 489, 15, 490, 876, 877, 878, 879, 880, 882, 49, 883, 884, 886] (by decide +kernel)
set_option maxRecDepth 20000 in
theorem in_wsL_law0_r13 : ∀ w ∈ wsL_law0_r13, w ∈ lw_tbl := in_pos [50, 887, 888, 889, 890, 491, 492, 493, 494, 495, 496, 497, 498, 499, 500, 504, 16, 505, 891, 892, 893, 894, 895, 897] (by decide +kernel)
set_option maxRecDepth 20000 in
theorem in_wsL_law0_r14 : ∀ w ∈ wsL_law0_r14, w ∈ lw_tbl := in_pos [51, 898, 899, 901, 52, 902, 508, 509, 510, 511, 512, 513, 514, 516, 517, 518, 521, 17, 522, 526, 18, 527, 528, 529] (by decide +kernel)
set_option maxRecDepth 20000 in
theorem in_wsL_law0_r15 : ∀ w ∈ wsL_law0_r15, w ∈ lw_tbl := in_pos [533, 19, 534, 536, 537, 540, 20, 541, 542, 544, 21, 545, 547, 550, 22, 551, 552, 903, 904, 905, 906, 907, 909, 53] (by decide +kernel)
set_option maxRecDepth 20000 in
theorem in_wsL_law0_r16 : ∀ w ∈ wsL_law0_r16, w ∈ lw_tbl := in_pos [910, 911, 913, 54, 914, 915, 917, 55, 918, 919, 921, 56, 922, 553, 554, 555, 556, 557, 558, 559, 923, 924, 925, 926] (by decide +kernel)
set_option maxRecDepth 20000 in
theorem in_wsL_law0_r17 : ∀ w ∈ wsL_law0_r17, w ∈ lw_tbl := in_pos [560, 561, 562, 563, 564, 565, 566, 927, 928, 929, 930, 568, 569, 570, 571, 572, 573, 574, 931, 932, 933, 934, 575, 576] (by decide +kernel)
set_option maxRecDepth 20000 in
theorem in_wsL_law0_r18 : ∀ w ∈ wsL_law0_r18, w ∈ lw_tbl := in_pos [577, 578, 579, 580, 581, 935, 936, 937, 938, 582, 583, 584, 585, 586, 587, 588, 589, 175, 1, 176, 594, 23, 595, 939] (by decide +kernel)
set_option maxRecDepth 20000 in
theorem in_wsL_law0_r19 : ∀ w ∈ wsL_law0_r19, w ∈ lw_tbl := in_pos [940, 941, 942, 943, 748, 944, 946, 57, 947, 948, 950, 58, 951, 597, 598, 599, 600, 601, 602, 603, 952, 953, 954, 955] (by decide +kernel)
set_option maxRecDepth 20000 in
theorem in_wsL_law0_r20 : ∀ w ∈ wsL_law0_r20, w ∈ lw_tbl := in_pos [164, 165, 166, 167, 182, 2, 183, 184, 185, 956, 957, 958, 959, 960, 962, 59, 963, 964, 604, 605, 606, 607, 608, 609] (by decide +kernel)
set_option maxRecDepth 20000 in
theorem in_wsL_law0_r21 : ∀ w ∈ wsL_law0_r21, w ∈ lw_tbl := in_pos [610, 611, 613, 24, 614, 617, 25, 618, 621, 26, 622, 626, 27, 627, 633, 28, 634, 635, 637, 29, 638, 639, 641, 30] (by decide +kernel)
set_option maxRecDepth 20000 in
theorem in_wsL_law0_r22 : ∀ w ∈ wsL_law0_r22, w ∈ lw_tbl := in_pos [642, 643, 645, 31, 646, 647, 649, 32, 650, 653, 33, 654, 965, 966, 967, 968, 969, 971, 60, 972, 753, 977, 973, 975] (by decide +kernel)
set_option maxRecDepth 20000 in
theorem in_wsL_law0_r23 : ∀ w ∈ wsL_law0_r23, w ∈ lw_tbl := in_pos [61, 976, 978, 980, 62, 981, 982, 984, 63, 985, 986, 988, 64, 989, 655, 656, 657, 658, 659, 660, 661, 665, 34, 666] (by decide +kernel)
set_option maxRecDepth 20000 in
theorem in_wsL_law0_r24 : ∀ w ∈ wsL_law0_r24, w ∈ lw_tbl := in_pos [990, 991, 992, 993, 667, 668, 669, 670, 671, 672, 673, 676, 35, 677, 678, 680, 36, 681, 682, 683, 685, 37, 686, 994] (by decide +kernel)
set_option maxRecDepth 20000 in
theorem in_wsL_law0_r25 : ∀ w ∈ wsL_law0_r25, w ∈ lw_tbl := in_pos [995, 996, 997, 998, 1000, 65, 1001, 687, 688, 689, 690, 691, 692, 693, 696, 38, 697, 702, 698, 700, 39, 701, 1002, 1003] (by decide +kernel)
set_option maxRecDepth 20000 in
theorem in_wsL_law0_r26 : ∀ w ∈ wsL_law0_r26, w ∈ lw_tbl := in_pos [1004, 1005, 1006, 703, 704, 705, 706, 707, 708, 709, 713, 40, 714, 717, 41, 718, 1007, 1008, 1009, 1010, 188, 189, 190, 191] (by decide +kernel)
set_option maxRecDepth 20000 in
theorem in_wsL_law0_r27 : ∀ w ∈ wsL_law0_r27, w ∈ lw_tbl := in_pos [1011, 1012, 1013, 1014, 719, 720, 721, 722, 723, 724, 725, 196, 198, 3, 199, 1015, 1016, 1017, 1018, 1019, 1021, 66, 1022, 192] (by decide +kernel)
set_option maxRecDepth 20000 in
theorem in_wsL_law0_r28 : ∀ w ∈ wsL_law0_r28, w ∈ lw_tbl := in_pos [193, 194, 195, 200, 202, 4, 203, 204, 205, 206, 1023, 1024, 1025, 1026] (by decide +kernel)
set_option maxRecDepth 20000 in
theorem in_wsX40 : ∀ w ∈ wsX40, w ∈ lw_tbl := in_pos [151, 153, 155, 157, 159, 161] (by decide +kernel)
set_option maxRecDepth 20000 in
theorem in_wsX50 : ∀ w ∈ wsX50, w ∈ lw_tbl := in_pos [759, 761, 763, 765, 767, 769, 771, 773, 775, 777, 779, 781, 783, 785, 787, 789, 791, 793, 795, 797, 799, 801, 803, 805, 807, 809] (by decide +kernel)
set_option maxRecDepth 20000 in
theorem in_wsX10 : ∀ w ∈ wsX10, w ∈ lw_tbl := in_pos [106, 108, 110, 112, 114] (by decide +kernel)
set_option maxRecDepth 20000 in
theorem in_wsX20 : ∀ w ∈ wsX20, w ∈ lw_tbl := in_pos [132, 134, 136, 138, 140, 142] (by decide +kernel)
set_option maxRecDepth 20000 in
theorem in_wsX30 : ∀ w ∈ wsX30, w ∈ lw_tbl := in_pos [327, 329, 331, 333, 335, 337, 339, 341] (by decide +kernel)
set_option maxRecDepth 20000 in
theorem in_wsX00 : ∀ w ∈ wsX00, w ∈ lw_tbl := in_pos [452, 454, 456, 458, 460, 462, 464] (by decide +kernel)
theorem wsL_law_in0 : ∀ w ∈ wsL_law0, w ∈ lw_tbl := List.forall_mem_append.mpr ⟨List.forall_mem_append.mpr ⟨List.forall_mem_append.mpr ⟨List.forall_mem_append.mpr ⟨List.forall_mem_append.mpr ⟨List.forall_mem_append.mpr ⟨List.forall_mem_append.mpr ⟨List.forall_mem_append.mpr ⟨in_wsL_law0_r1, List.forall_mem_append.mpr ⟨in_wsL_law0_r2, List.forall_mem_append.mpr ⟨in_wsL_law0_r3, List.forall_mem_append.mpr ⟨in_wsL_law0_r4, List.forall_mem_append.mpr ⟨in_wsL_law0_r5, List.forall_mem_append.mpr ⟨in_wsL_law0_r6, List.forall_mem_append.mpr ⟨in_wsL_law0_r7, List.forall_mem_append.mpr ⟨in_wsL_law0_r8, List.forall_mem_append.mpr ⟨in_wsL_law0_r9, List.forall_mem_append.mpr ⟨in_wsL_law0_r10, List.forall_mem_append.mpr ⟨in_wsL_law0_r11, List.forall_mem_append.mpr ⟨in_wsL_law0_r12, List.forall_mem_append.mpr ⟨in_wsL_law0_r13, List.forall_mem_append.mpr ⟨in_wsL_law0_r14, List.forall_mem_append.mpr ⟨in_wsL_law0_r15, List.forall_mem_append.mpr ⟨in_wsL_law0_r16, List.forall_mem_append.mpr ⟨in_wsL_law0_r17, List.forall_mem_append.mpr ⟨in_wsL_law0_r18, List.forall_mem_append.mpr ⟨in_wsL_law0_r19, List.forall_mem_append.mpr ⟨in_wsL_law0_r20, List.forall_mem_append.mpr ⟨in_wsL_law0_r21, List.forall_mem_append.mpr ⟨in_wsL_law0_r22, List.forall_mem_append.mpr ⟨in_wsL_law0_r23, List.forall_mem_append.mpr ⟨in_wsL_law0_r24, List.forall_mem_append.mpr ⟨in_wsL_law0_r25, List.forall_mem_append.mpr ⟨in_wsL_law0_r26, List.forall_mem_append.mpr ⟨in_wsL_law0_r27, in_wsL_law0_r28⟩⟩⟩⟩⟩⟩⟩⟩⟩⟩⟩⟩⟩⟩⟩⟩⟩⟩⟩⟩⟩⟩⟩⟩⟩⟩⟩, in_wsX40⟩, in_wsX50⟩, in_wsX10⟩, in_wsX20⟩, in_wsX30⟩, in_wsX00⟩, fun _ h => absurd h List.not_mem_nil⟩
