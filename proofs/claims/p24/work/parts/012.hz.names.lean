theorem goodIn_cons {big a : List Cond} {c : Cond} (hc : GoodIn big [c]) (ha : GoodIn big a) : GoodIn big (c :: a) := fun w h => (List.mem_cons.mp h).elim (fun e => hc w (by rw [e]; exact List.mem_singleton.mpr rfl)) (ha w)
set_option maxRecDepth 20000 in
theorem gl_c : GoodIn wsL_law [.code yL_isLaid cL_isLaid 17 (some .boolean)] := goodIn_r _ [302] (by decide +kernel) (by decide +kernel)
set_option maxRecDepth 20000 in
theorem gl_r1 : GoodIn wsL_law wsL_isLaid_r1 := goodIn_r _ [303, 139, 7, 140, 102, 103, 104, 2, 105, 86, 87, 88, 89, 90, 106, 107, 108, 109, 25, 18, 22, 23, 24, 110] (by decide +kernel) (by decide +kernel)
set_option maxRecDepth 20000 in
theorem gl_r2 : GoodIn wsL_law wsL_isLaid_r2 := goodIn_r _ [111, 112, 17, 113, 101, 36, 114, 115, 116, 117, 118, 41, 119, 120, 121, 122, 38, 39, 123, 124, 125, 126, 127, 128] (by decide +kernel) (by decide +kernel)
set_option maxRecDepth 20000 in
theorem gl_r3 : GoodIn wsL_law wsL_isLaid_r3 := goodIn_r _ [129, 130, 131, 132, 133, 134, 135, 136, 137, 37, 138, 42, 43, 141, 6, 8, 142, 143, 144, 145, 146, 147, 148, 149] (by decide +kernel) (by decide +kernel)
set_option maxRecDepth 20000 in
theorem gl_r4 : GoodIn wsL_law wsL_isLaid_r4 := goodIn_r _ [150, 151, 152, 153, 154, 155, 21, 156, 59, 60, 157, 158, 159, 160, 30, 161, 162, 163, 164, 165, 166, 167, 168, 169] (by decide +kernel) (by decide +kernel)
set_option maxRecDepth 20000 in
theorem gl_r5 : GoodIn wsL_law wsL_isLaid_r5 := goodIn_r _ [170, 64, 171, 172, 173, 174, 175, 176, 177, 178, 179, 180, 181, 182, 183, 65, 184, 185, 186, 187, 188, 189, 190, 191] (by decide +kernel) (by decide +kernel)
set_option maxRecDepth 20000 in
theorem gl_r6 : GoodIn wsL_law wsL_isLaid_r6 := goodIn_r _ [192, 68, 69, 70, 71, 72, 193, 194, 195, 196, 67, 197, 198, 199, 200, 201, 202, 203, 204, 205, 206, 207, 208, 66] (by decide +kernel) (by decide +kernel)
set_option maxRecDepth 20000 in
theorem gl_r7 : GoodIn wsL_law wsL_isLaid_r7 := goodIn_r _ [209, 210, 211, 212, 213, 214, 215, 216, 217, 218, 219, 220, 221, 222, 223, 224, 225, 226, 227, 228, 229, 230, 231, 232] (by decide +kernel) (by decide +kernel)
set_option maxRecDepth 20000 in
theorem gl_r8 : GoodIn wsL_law wsL_isLaid_r8 := goodIn_r _ [233, 304, 305, 306, 307, 266, 267, 268, 269, 256, 257, 308, 309, 310, 311, 312, 313, 314, 315, 316, 317, 318, 319, 320] (by decide +kernel) (by decide +kernel)
set_option maxRecDepth 20000 in
theorem gl_r9 : GoodIn wsL_law wsL_isLaid_r9 := goodIn_r _ [321, 322, 323, 324, 325, 326, 327, 328, 329, 330, 331, 332, 333, 334, 335, 336, 337, 338, 252, 253, 254, 255, 339, 340] (by decide +kernel) (by decide +kernel)
set_option maxRecDepth 20000 in
theorem gl_r10 : GoodIn wsL_law wsL_isLaid_r10 := goodIn_r _ [341, 342, 343, 344, 345, 346, 347, 348, 349, 350, 351, 352, 353, 354, 355, 356, 357, 358, 359, 360, 361, 362, 75, 363] (by decide +kernel) (by decide +kernel)
set_option maxRecDepth 20000 in
theorem gl_x4 : GoodIn wsL_law wsX40 := goodIn_r _ [402, 403, 404, 405, 406, 407, 408, 409] (by decide +kernel) (by decide +kernel)
set_option maxRecDepth 20000 in
theorem gl_x3 : GoodIn wsL_law wsX30 := goodIn_r _ [410, 411, 412, 413, 414, 415, 416, 417, 418] (by decide +kernel) (by decide +kernel)
set_option maxRecDepth 20000 in
theorem gl_x1 : GoodIn wsL_law wsX10 := goodIn_r _ [436, 437, 438, 439, 440, 441, 442, 443] (by decide +kernel) (by decide +kernel)
set_option maxRecDepth 20000 in
theorem gl_x2 : GoodIn wsL_law wsX20 := goodIn_r _ [419, 420, 421] (by decide +kernel) (by decide +kernel)
set_option maxRecDepth 20000 in
theorem gl_x0 : GoodIn wsL_law wsX00 := goodIn_r _ [422, 423, 424, 425, 426, 427, 428, 429, 430, 431, 432, 433, 434, 435] (by decide +kernel) (by decide +kernel)
set_option maxRecDepth 20000 in
theorem ggL_law_L_isLaid : GoodIn wsL_law wsL_isLaid := goodIn_cons gl_c (goodIn_app (goodIn_app (goodIn_app (goodIn_app (goodIn_app (goodIn_app (goodIn_app (goodIn_app gl_r1 (goodIn_app gl_r2 (goodIn_app gl_r3 (goodIn_app gl_r4 (goodIn_app gl_r5 (goodIn_app gl_r6 (goodIn_app gl_r7 (goodIn_app gl_r8 (goodIn_app gl_r9 (gl_r10)))))))))) gl_x4) gl_x3) gl_x1) gl_x2) gl_x0) (goodIn_sub (fun _ h => List.mem_append_left _ (List.mem_append_left _ (List.mem_append_right _ h))) (by decide +kernel))) (goodIn_sub (fun _ h => List.mem_append_right _ h) (by decide +kernel)))
