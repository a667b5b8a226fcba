set_option maxRecDepth 40000 in
theorem gc_wsL_works_r1 : GoodIn wsL_law wsL_works_r1 := goodIn_r _ [321, 3, 322, 46, 47, 43, 48, 323, 324, 325, 326, 327, 328, 234, 235, 236, 237, 238, 239, 329, 330, 331, 110, 58] (by decide +kernel) (by decide +kernel)
set_option maxRecDepth 40000 in
theorem gc_wsL_works_r2 : GoodIn wsL_law wsL_works_r2 := goodIn_r _ [111, 332, 333, 334, 2, 335, 63, 64, 65, 66, 129, 130, 131, 132, 116, 117, 14, 147, 148, 149, 153, 154, 155, 156] (by decide +kernel) (by decide +kernel)
set_option maxRecDepth 40000 in
theorem gc_wsL_works_r3 : GoodIn wsL_law wsL_works_r3 := goodIn_r _ [96, 157, 158, 103, 336, 68, 337, 338, 82, 339, 166, 167, 168, 83, 169, 170, 340, 341, 342, 343, 85, 86, 344, 345] (by decide +kernel) (by decide +kernel)
set_option maxRecDepth 40000 in
theorem gc_wsL_works_r4 : GoodIn wsL_law wsL_works_r4 := goodIn_r _ [346, 204, 205, 159, 160, 161, 101, 162, 163, 164, 165, 171, 172, 173, 174, 136, 137, 138, 139, 105, 106, 175, 176, 177] (by decide +kernel) (by decide +kernel)
set_option maxRecDepth 40000 in
theorem gc_wsL_works_r5 : GoodIn wsL_law wsL_works_r5 := goodIn_r _ [178, 179, 180, 181, 182, 183, 184, 185, 186, 187, 188, 140, 141, 142, 102, 107, 108, 109, 112, 113, 114, 115, 118, 119] (by decide +kernel) (by decide +kernel)
set_option maxRecDepth 40000 in
theorem gc_wsL_works_r6 : GoodIn wsL_law wsL_works_r6 := goodIn_r _ [120, 121, 11, 122, 123, 124, 80, 73, 74, 75, 76, 125, 126, 127, 128, 133, 134, 135, 104, 143, 144, 145, 146, 150] (by decide +kernel) (by decide +kernel)
set_option maxRecDepth 40000 in
theorem gc_wsL_works_r7 : GoodIn wsL_law wsL_works_r7 := goodIn_r _ [151, 152, 189, 190, 191, 192, 23, 193, 194, 195, 196, 19, 197, 22, 198, 199, 36, 35, 37, 200, 18, 201, 202, 27] (by decide +kernel) (by decide +kernel)
set_option maxRecDepth 40000 in
theorem gc_wsL_works_r8 : GoodIn wsL_law wsL_works_r8 := goodIn_r _ [29, 203, 206, 207, 208, 30, 209, 210, 211, 38, 39, 212, 213, 214, 215, 216, 217, 218, 219, 220, 221, 222, 223, 224] (by decide +kernel) (by decide +kernel)
set_option maxRecDepth 40000 in
theorem gc_wsL_works_r9 : GoodIn wsL_law wsL_works_r9 := goodIn_r _ [225, 226, 227, 228, 229, 230, 347, 348, 349, 350, 351, 352, 353, 354, 355, 356, 357, 358, 359, 360, 361, 362, 363, 31] (by decide +kernel) (by decide +kernel)
set_option maxRecDepth 40000 in
theorem gc_wsL_works_r10 : GoodIn wsL_law wsL_works_r10 := goodIn_r _ [364, 365, 366, 367, 368, 369, 240, 241, 242, 243, 244, 245, 246, 247, 248, 249, 250, 251, 252, 253, 254, 255, 256, 257] (by decide +kernel) (by decide +kernel)
set_option maxRecDepth 40000 in
theorem gc_wsL_works_r11 : GoodIn wsL_law wsL_works_r11 := goodIn_r _ [28, 258, 259, 260, 261, 262, 263, 264, 265, 266, 267, 268, 269, 270, 271, 272, 273, 274, 40, 275, 276, 277, 278, 279] (by decide +kernel) (by decide +kernel)
set_option maxRecDepth 40000 in
theorem gc_wsL_works_r12 : GoodIn wsL_law wsL_works_r12 := goodIn_r _ [280, 281, 282, 283, 284, 285, 286, 287, 288, 289, 290, 291, 292, 293, 294, 295, 296, 297, 298, 299, 300, 301, 302, 303] (by decide +kernel) (by decide +kernel)
set_option maxRecDepth 40000 in
theorem gc_works_wsX40 : GoodIn wsL_law wsX40 := goodIn_r _ [422, 423, 424, 425, 426, 427] (by decide +kernel) (by decide +kernel)
set_option maxRecDepth 40000 in
theorem gc_works_wsX00 : GoodIn wsL_law wsX00 := goodIn_r _ [447, 448, 449, 450, 451, 452, 453] (by decide +kernel) (by decide +kernel)
set_option maxRecDepth 40000 in
theorem gc_works_wsX30 : GoodIn wsL_law wsX30 := goodIn_r _ [439, 440, 441, 442, 443, 444, 445, 446] (by decide +kernel) (by decide +kernel)
set_option maxRecDepth 40000 in
theorem gc_works_wsX20 : GoodIn wsL_law wsX20 := goodIn_r _ [433, 434, 435, 436, 437, 438] (by decide +kernel) (by decide +kernel)
set_option maxRecDepth 40000 in
theorem gc_works_wsX10 : GoodIn wsL_law wsX10 := goodIn_r _ [428, 429, 430, 431, 432] (by decide +kernel) (by decide +kernel)
set_option maxRecDepth 40000 in
theorem gc_works_0 : GoodIn wsL_law [.code yL_works cL_works 21 (some .boolean)] := goodIn_sub (fun w h => by rw [List.mem_singleton.mp h]; exact List.mem_of_getElem? (i := 320) rfl) (by decide +kernel)
set_option maxRecDepth 40000 in
theorem ggL_law_L_works : GoodIn wsL_law wsL_works := goodIn_ca (goodIn_ca (goodIn_ca (goodIn_app gc_works_0 (goodIn_app (goodIn_app (goodIn_app (goodIn_app (goodIn_app (goodIn_app gc_wsL_works_r1 (goodIn_app gc_wsL_works_r2 (goodIn_app gc_wsL_works_r3 (goodIn_app gc_wsL_works_r4 (goodIn_app gc_wsL_works_r5 (goodIn_app gc_wsL_works_r6 (goodIn_app gc_wsL_works_r7 (goodIn_app gc_wsL_works_r8 (goodIn_app gc_wsL_works_r9 (goodIn_app gc_wsL_works_r10 (goodIn_app gc_wsL_works_r11 gc_wsL_works_r12))))))))))) gc_works_wsX40) gc_works_wsX00) gc_works_wsX30) gc_works_wsX20) gc_works_wsX10)) (goodIn_sub (fun _ h => List.mem_append_left _ (List.mem_append_left _ (List.mem_append_right _ h))) (by decide +kernel))) (goodIn_sub (fun _ h => List.mem_append_left _ (List.mem_append_right _ h)) (by decide +kernel))) (goodIn_sub (fun _ h => List.mem_append_right _ h) (by decide +kernel))
set_option maxRecDepth 40000 in
theorem gL_law_L_works : GoodIn wsL_law (va_wsS RL 177 yL_works wsL_works) := goodIn_app (goodIn_of _ (by decide +kernel)) ggL_law_L_works
