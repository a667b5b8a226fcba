set_option maxRecDepth 40000 in
theorem gc_wsL_tells_r1 : GoodIn wsL_law wsL_tells_r1 := goodIn_r _ [3, 321, 347, 348, 43, 349, 373, 374, 375, 110, 376, 377, 378, 2, 379, 118, 119, 120, 121, 116, 117, 11, 122, 68] (by decide +kernel) (by decide +kernel)
set_option maxRecDepth 40000 in
theorem gc_wsL_tells_r2 : GoodIn wsL_law wsL_tells_r2 := goodIn_r _ [123, 124, 80, 380, 381, 382, 383, 384, 385, 386, 387, 150, 151, 152, 166, 167, 168, 83, 169, 170, 388, 389, 390, 391] (by decide +kernel) (by decide +kernel)
set_option maxRecDepth 40000 in
theorem gc_wsL_tells_r3 : GoodIn wsL_law wsL_tells_r3 := goodIn_r _ [341, 342, 343, 85, 86, 175, 176, 177, 178, 179, 138, 180, 181, 182, 183, 184, 392, 393, 394, 395, 19, 358, 18, 359] (by decide +kernel) (by decide +kernel)
set_option maxRecDepth 40000 in
theorem gc_wsL_tells_r4 : GoodIn wsL_law wsL_tells_r4 := goodIn_r _ [360, 27, 29, 396, 397, 398, 399, 129, 130, 131, 132, 14, 400, 401, 402, 403, 46, 47, 48, 323, 324, 325, 237, 238] (by decide +kernel) (by decide +kernel)
set_option maxRecDepth 40000 in
theorem gc_wsL_tells_r5 : GoodIn wsL_law wsL_tells_r5 := goodIn_r _ [239, 404, 405, 406, 407, 408, 409, 410, 411, 31, 203, 412, 413, 414, 415] (by decide +kernel) (by decide +kernel)
set_option maxRecDepth 40000 in
theorem gc_tells_wsX30 : GoodIn wsL_law wsX30 := goodIn_r _ [439, 440, 441, 442, 443, 444, 445, 446] (by decide +kernel) (by decide +kernel)
set_option maxRecDepth 40000 in
theorem gc_tells_wsX40 : GoodIn wsL_law wsX40 := goodIn_r _ [422, 423, 424, 425, 426, 427] (by decide +kernel) (by decide +kernel)
set_option maxRecDepth 40000 in
theorem gc_tells_wsX10 : GoodIn wsL_law wsX10 := goodIn_r _ [428, 429, 430, 431, 432] (by decide +kernel) (by decide +kernel)
set_option maxRecDepth 40000 in
theorem gc_tells_wsX00 : GoodIn wsL_law wsX00 := goodIn_r _ [447, 448, 449, 450, 451, 452, 453] (by decide +kernel) (by decide +kernel)
set_option maxRecDepth 40000 in
theorem gc_tells_0 : GoodIn wsL_law [.code yL_tells cL_tells 21 (some .boolean)] := goodIn_sub (fun w h => by rw [List.mem_singleton.mp h]; exact List.mem_of_getElem? (i := 372) rfl) (by decide +kernel)
set_option maxRecDepth 40000 in
theorem ggL_law_L_tells : GoodIn wsL_law wsL_tells := goodIn_ca (goodIn_app gc_tells_0 (goodIn_app (goodIn_app (goodIn_app (goodIn_app (goodIn_app gc_wsL_tells_r1 (goodIn_app gc_wsL_tells_r2 (goodIn_app gc_wsL_tells_r3 (goodIn_app gc_wsL_tells_r4 gc_wsL_tells_r5)))) gc_tells_wsX30) gc_tells_wsX40) gc_tells_wsX10) gc_tells_wsX00)) (goodIn_sub (fun _ h => List.mem_append_right _ h) (by decide +kernel))
set_option maxRecDepth 40000 in
theorem gL_law_L_tells : GoodIn wsL_law (va_wsS RL 181 yL_tells wsL_tells) := goodIn_app (goodIn_of _ (by decide +kernel)) ggL_law_L_tells
