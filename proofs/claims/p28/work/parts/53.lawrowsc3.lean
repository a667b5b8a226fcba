set_option maxRecDepth 40000 in
theorem gc_wsL_orders_r1 : GoodIn wsL_law wsL_orders_r1 := goodIn_r _ [3, 364, 365, 43, 366, 347, 348, 349, 367, 368, 369, 323, 324, 325, 234, 235, 236, 237, 238, 239, 240, 241, 242, 110] (by decide +kernel) (by decide +kernel)
set_option maxRecDepth 40000 in
theorem gc_wsL_orders_r2 : GoodIn wsL_law wsL_orders_r2 := goodIn_r _ [111, 243, 244, 245, 2, 246, 129, 130, 131, 132, 116, 117, 14, 147, 148, 149, 65, 66, 172, 96, 173, 174, 136, 137] (by decide +kernel) (by decide +kernel)
set_option maxRecDepth 40000 in
theorem gc_wsL_orders_r3 : GoodIn wsL_law wsL_orders_r3 := goodIn_r _ [138, 139, 105, 106, 175, 68, 176, 177, 86, 178, 179, 180, 181, 182, 183, 184, 85, 133, 134, 135, 104, 140, 141, 142] (by decide +kernel) (by decide +kernel)
set_option maxRecDepth 40000 in
theorem gc_wsL_orders_r4 : GoodIn wsL_law wsL_orders_r4 := goodIn_r _ [102, 247, 248, 249, 250, 251, 252, 253, 254, 23, 19, 153, 154, 155, 156, 157, 158, 103, 193, 194, 195, 196, 197, 22] (by decide +kernel) (by decide +kernel)
set_option maxRecDepth 40000 in
theorem gc_wsL_orders_r5 : GoodIn wsL_law wsL_orders_r5 := goodIn_r _ [198, 199, 36, 35, 37, 200, 18, 201, 202, 27, 29, 203, 169, 170, 204, 205, 206, 207, 208, 30, 163, 164, 165, 166] (by decide +kernel) (by decide +kernel)
set_option maxRecDepth 40000 in
theorem gc_wsL_orders_r6 : GoodIn wsL_law wsL_orders_r6 := goodIn_r _ [167, 168, 83, 171, 185, 186, 187, 209, 210, 211, 38, 39, 212, 213, 214, 215, 216, 217, 218, 219, 220, 221, 222, 223] (by decide +kernel) (by decide +kernel)
set_option maxRecDepth 40000 in
theorem gc_wsL_orders_r7 : GoodIn wsL_law wsL_orders_r7 := goodIn_r _ [224, 225, 226, 227, 228, 229, 230, 159, 160, 161, 101, 162, 188, 255, 256, 257, 28, 258, 259, 260, 31, 261, 262, 263] (by decide +kernel) (by decide +kernel)
set_option maxRecDepth 40000 in
theorem gc_wsL_orders_r8 : GoodIn wsL_law wsL_orders_r8 := goodIn_r _ [264, 265, 266, 267, 268, 269, 270, 271, 272, 273, 274, 40, 275, 276, 277, 278, 279, 280, 281, 282, 283, 284, 285, 286] (by decide +kernel) (by decide +kernel)
set_option maxRecDepth 40000 in
theorem gc_wsL_orders_r9 : GoodIn wsL_law wsL_orders_r9 := goodIn_r _ [287, 288, 289, 290, 291, 292, 293, 294, 295, 296, 297, 298, 299, 118, 119, 120, 121, 11, 122, 123, 124, 80, 300, 301] (by decide +kernel) (by decide +kernel)
set_option maxRecDepth 40000 in
theorem gc_wsL_orders_r10 : GoodIn wsL_law wsL_orders_r10 := goodIn_r _ [302, 303, 419, 420, 421, 107, 108, 109, 112, 113, 114, 115, 73, 74, 75, 76, 125, 126, 127, 128, 143, 144, 145, 146] (by decide +kernel) (by decide +kernel)
set_option maxRecDepth 40000 in
theorem gc_wsL_orders_r11 : GoodIn wsL_law wsL_orders_r11 := goodIn_r _ [150, 151, 152, 189, 190, 191, 192] (by decide +kernel) (by decide +kernel)
set_option maxRecDepth 40000 in
theorem gc_orders_wsX00 : GoodIn wsL_law wsX00 := goodIn_r _ [447, 448, 449, 450, 451, 452, 453] (by decide +kernel) (by decide +kernel)
set_option maxRecDepth 40000 in
theorem gc_orders_wsX30 : GoodIn wsL_law wsX30 := goodIn_r _ [439, 440, 441, 442, 443, 444, 445, 446] (by decide +kernel) (by decide +kernel)
set_option maxRecDepth 40000 in
theorem gc_orders_wsX40 : GoodIn wsL_law wsX40 := goodIn_r _ [422, 423, 424, 425, 426, 427] (by decide +kernel) (by decide +kernel)
set_option maxRecDepth 40000 in
theorem gc_orders_wsX20 : GoodIn wsL_law wsX20 := goodIn_r _ [433, 434, 435, 436, 437, 438] (by decide +kernel) (by decide +kernel)
set_option maxRecDepth 40000 in
theorem gc_orders_wsX10 : GoodIn wsL_law wsX10 := goodIn_r _ [428, 429, 430, 431, 432] (by decide +kernel) (by decide +kernel)
set_option maxRecDepth 40000 in
theorem gc_orders_0 : GoodIn wsL_law [.code yL_orders cL_orders 16 (some .boolean)] := goodIn_sub (fun w h => by rw [List.mem_singleton.mp h]; exact List.mem_of_getElem? (i := 418) rfl) (by decide +kernel)
set_option maxRecDepth 40000 in
theorem ggL_law_L_orders : GoodIn wsL_law wsL_orders := goodIn_ca (goodIn_ca (goodIn_app gc_orders_0 (goodIn_app (goodIn_app (goodIn_app (goodIn_app (goodIn_app (goodIn_app gc_wsL_orders_r1 (goodIn_app gc_wsL_orders_r2 (goodIn_app gc_wsL_orders_r3 (goodIn_app gc_wsL_orders_r4 (goodIn_app gc_wsL_orders_r5 (goodIn_app gc_wsL_orders_r6 (goodIn_app gc_wsL_orders_r7 (goodIn_app gc_wsL_orders_r8 (goodIn_app gc_wsL_orders_r9 (goodIn_app gc_wsL_orders_r10 gc_wsL_orders_r11)))))))))) gc_orders_wsX00) gc_orders_wsX30) gc_orders_wsX40) gc_orders_wsX20) gc_orders_wsX10)) (goodIn_sub (fun _ h => List.mem_append_right _ h) (by decide +kernel))) (goodIn_sub (fun _ h => List.mem_append_left _ (List.mem_append_right _ h)) (by decide +kernel))
set_option maxRecDepth 40000 in
theorem gL_law_L_orders : GoodIn wsL_law (va_wsS RL 185 yL_orders wsL_orders) := goodIn_app (goodIn_of _ (by decide +kernel)) ggL_law_L_orders
