set_option maxRecDepth 40000 in
theorem gc_wsL_tapes_r1 : GoodIn wsL_law wsL_tapes_r1 := goodIn_r _ [46, 47, 43, 48, 52, 53, 54, 55, 56, 57, 58, 59, 60, 61, 2, 62, 63, 64, 65, 66, 12, 11, 10, 67] (by decide +kernel) (by decide +kernel)
set_option maxRecDepth 40000 in
theorem gc_wsL_tapes_r2 : GoodIn wsL_law wsL_tapes_r2 := goodIn_r _ [68, 69, 70, 71, 72, 73, 74, 75, 76, 77, 78, 79, 8, 9, 80, 81, 82, 3, 83, 84, 85, 86, 87, 88] (by decide +kernel) (by decide +kernel)
set_option maxRecDepth 40000 in
theorem gc_wsL_tapes_r3 : GoodIn wsL_law wsL_tapes_r3 := goodIn_r _ [89, 90, 91, 92, 93, 94, 15, 14, 13, 95, 96, 97, 98, 99, 100, 101, 102, 103, 104, 105, 106, 107, 108, 109] (by decide +kernel) (by decide +kernel)
set_option maxRecDepth 40000 in
theorem gc_wsL_tapes_r4 : GoodIn wsL_law wsL_tapes_r4 := goodIn_r _ [110, 111, 112, 113, 114, 115, 116, 117, 118, 119, 120, 121, 122, 123, 124, 125, 126, 127, 128, 129, 130, 131, 132, 133] (by decide +kernel) (by decide +kernel)
set_option maxRecDepth 40000 in
theorem gc_wsL_tapes_r5 : GoodIn wsL_law wsL_tapes_r5 := goodIn_r _ [134, 135, 136, 137, 138, 139, 140, 141, 142, 143, 144, 145, 146, 147, 148, 149, 150, 151, 152, 153, 154, 155, 156, 157] (by decide +kernel) (by decide +kernel)
set_option maxRecDepth 40000 in
theorem gc_wsL_tapes_r6 : GoodIn wsL_law wsL_tapes_r6 := goodIn_r _ [158, 159, 160, 161, 162, 163, 164, 165, 166, 167, 168, 169, 170, 171, 172, 173, 174, 175, 176, 177, 178, 179, 180, 181] (by decide +kernel) (by decide +kernel)
set_option maxRecDepth 40000 in
theorem gc_wsL_tapes_r7 : GoodIn wsL_law wsL_tapes_r7 := goodIn_r _ [182, 183, 184, 185, 186, 187, 188, 189, 190, 191, 192, 23, 193, 194, 195, 196, 19, 197, 22, 198, 199, 36, 35, 37] (by decide +kernel) (by decide +kernel)
set_option maxRecDepth 40000 in
theorem gc_wsL_tapes_r8 : GoodIn wsL_law wsL_tapes_r8 := goodIn_r _ [200, 18, 201, 202, 27, 29, 203, 204, 205, 206, 207, 208, 30, 209, 210, 211, 38, 39, 212, 213, 214, 215, 216, 217] (by decide +kernel) (by decide +kernel)
set_option maxRecDepth 40000 in
theorem gc_wsL_tapes_r9 : GoodIn wsL_law wsL_tapes_r9 := goodIn_r _ [218, 219, 220, 221, 222, 223, 224, 225, 226, 227, 228, 229, 230, 231, 232, 233, 234, 235, 236, 237, 238, 239, 240, 241] (by decide +kernel) (by decide +kernel)
set_option maxRecDepth 40000 in
theorem gc_wsL_tapes_r10 : GoodIn wsL_law wsL_tapes_r10 := goodIn_r _ [242, 243, 244, 245, 246, 247, 248, 249, 250, 251, 252, 253, 254, 255, 256, 257, 28, 258, 259, 260, 31, 261, 262, 263] (by decide +kernel) (by decide +kernel)
set_option maxRecDepth 40000 in
theorem gc_wsL_tapes_r11 : GoodIn wsL_law wsL_tapes_r11 := goodIn_r _ [264, 265, 266, 267, 268, 269, 270, 271, 272, 273, 274, 40, 275, 276, 277, 278, 279, 280, 281, 282, 283, 284, 285, 286] (by decide +kernel) (by decide +kernel)
set_option maxRecDepth 40000 in
theorem gc_wsL_tapes_r12 : GoodIn wsL_law wsL_tapes_r12 := goodIn_r _ [287, 288, 289, 290, 291, 292, 293, 294, 295, 296, 297, 298, 299, 300, 301, 302, 303, 304, 305, 306, 307, 308, 309, 310] (by decide +kernel) (by decide +kernel)
set_option maxRecDepth 40000 in
theorem gc_wsL_tapes_r13 : GoodIn wsL_law wsL_tapes_r13 := goodIn_r _ [311, 312, 313, 314, 315, 316, 317] (by decide +kernel) (by decide +kernel)
set_option maxRecDepth 40000 in
theorem gc_tapes_wsX40 : GoodIn wsL_law wsX40 := goodIn_r _ [422, 423, 424, 425, 426, 427] (by decide +kernel) (by decide +kernel)
set_option maxRecDepth 40000 in
theorem gc_tapes_wsX30 : GoodIn wsL_law wsX30 := goodIn_r _ [439, 440, 441, 442, 443, 444, 445, 446] (by decide +kernel) (by decide +kernel)
set_option maxRecDepth 40000 in
theorem gc_tapes_wsX00 : GoodIn wsL_law wsX00 := goodIn_r _ [447, 448, 449, 450, 451, 452, 453] (by decide +kernel) (by decide +kernel)
set_option maxRecDepth 40000 in
theorem gc_tapes_wsX20 : GoodIn wsL_law wsX20 := goodIn_r _ [433, 434, 435, 436, 437, 438] (by decide +kernel) (by decide +kernel)
set_option maxRecDepth 40000 in
theorem gc_tapes_wsX10 : GoodIn wsL_law wsX10 := goodIn_r _ [428, 429, 430, 431, 432] (by decide +kernel) (by decide +kernel)
set_option maxRecDepth 40000 in
theorem gc_tapes_0 : GoodIn wsL_law [.code yL_tapes cL_tapes 14 (some .boolean)] := goodIn_sub (fun w h => by rw [List.mem_singleton.mp h]; exact List.mem_of_getElem? (i := 51) rfl) (by decide +kernel)
set_option maxRecDepth 40000 in
theorem ggL_law_L_tapes : GoodIn wsL_law wsL_tapes := goodIn_ca (goodIn_ca (goodIn_ca (goodIn_app gc_tapes_0 (goodIn_app (goodIn_app (goodIn_app (goodIn_app (goodIn_app (goodIn_app gc_wsL_tapes_r1 (goodIn_app gc_wsL_tapes_r2 (goodIn_app gc_wsL_tapes_r3 (goodIn_app gc_wsL_tapes_r4 (goodIn_app gc_wsL_tapes_r5 (goodIn_app gc_wsL_tapes_r6 (goodIn_app gc_wsL_tapes_r7 (goodIn_app gc_wsL_tapes_r8 (goodIn_app gc_wsL_tapes_r9 (goodIn_app gc_wsL_tapes_r10 (goodIn_app gc_wsL_tapes_r11 (goodIn_app gc_wsL_tapes_r12 gc_wsL_tapes_r13)))))))))))) gc_tapes_wsX40) gc_tapes_wsX30) gc_tapes_wsX00) gc_tapes_wsX20) gc_tapes_wsX10)) (goodIn_sub (fun _ h => List.mem_append_left _ (List.mem_append_left _ (List.mem_append_right _ h))) (by decide +kernel))) (goodIn_sub (fun _ h => List.mem_append_left _ (List.mem_append_right _ h)) (by decide +kernel))) (goodIn_sub (fun _ h => List.mem_append_right _ h) (by decide +kernel))
set_option maxRecDepth 40000 in
theorem gL_law_L_tapes : GoodIn wsL_law (va_wsS RL 173 yL_tapes wsL_tapes) := goodIn_app (goodIn_of _ (by decide +kernel)) ggL_law_L_tapes
